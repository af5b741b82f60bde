section
-- ===== PART A: goes FIRST, ahead of the names: the tables' words, and 'selects' of the private methods out of them =====
/-- a private method of a class that the tables say can be made, by its rows of tables_1 -/
def lw_okq (q : MethodName × Nat) : Prop := (q.1.cls ≠ "java/lang/invoke/MethodHandle" ∧ q.1.cls ≠ "java/lang/invoke/VarHandle") ∧ Cond.instantiable q.1.cls q.2 ∈ tables_1 ∧ Cond.privateMethod q.1 ∈ tables_1 ∧ Cond.instanceMethod q.1 ∈ tables_1
theorem lw_p0 : lw_okq (⟨"CapitalReckoner", "findBest", "()V"⟩, 9) := ⟨⟨by decide +kernel, by decide +kernel⟩, List.mem_of_getElem? (i := 14) (by decide +kernel), List.mem_of_getElem? (i := 96) (by decide +kernel), List.mem_of_getElem? (i := 97) (by decide +kernel)⟩
theorem lw_p1 : lw_okq (⟨"CapitalReckoner", "fillSearch", "()V"⟩, 9) := ⟨⟨by decide +kernel, by decide +kernel⟩, List.mem_of_getElem? (i := 14) (by decide +kernel), List.mem_of_getElem? (i := 100) (by decide +kernel), List.mem_of_getElem? (i := 101) (by decide +kernel)⟩
theorem lw_p2 : lw_okq (⟨"CapitalReckoner$Search", "begin", "(II)V"⟩, 7) := ⟨⟨by decide +kernel, by decide +kernel⟩, List.mem_of_getElem? (i := 26) (by decide +kernel), List.mem_of_getElem? (i := 104) (by decide +kernel), List.mem_of_getElem? (i := 105) (by decide +kernel)⟩
theorem lw_p3 : lw_okq (⟨"CapitalReckoner", "exposureAt", "(I)LCapitalReckoner$Exposure;"⟩, 9) := ⟨⟨by decide +kernel, by decide +kernel⟩, List.mem_of_getElem? (i := 14) (by decide +kernel), List.mem_of_getElem? (i := 111) (by decide +kernel), List.mem_of_getElem? (i := 112) (by decide +kernel)⟩
theorem lw_p4 : lw_okq (⟨"CapitalReckoner", "usableFor", "(I)I"⟩, 9) := ⟨⟨by decide +kernel, by decide +kernel⟩, List.mem_of_getElem? (i := 14) (by decide +kernel), List.mem_of_getElem? (i := 115) (by decide +kernel), List.mem_of_getElem? (i := 116) (by decide +kernel)⟩
theorem lw_p5 : lw_okq (⟨"CapitalReckoner", "pieceAt", "(I)LCapitalReckoner$Piece;"⟩, 9) := ⟨⟨by decide +kernel, by decide +kernel⟩, List.mem_of_getElem? (i := 14) (by decide +kernel), List.mem_of_getElem? (i := 119) (by decide +kernel), List.mem_of_getElem? (i := 120) (by decide +kernel)⟩
theorem lw_p6 : lw_okq (⟨"CapitalReckoner$Search", "setUsable", "(II)V"⟩, 7) := ⟨⟨by decide +kernel, by decide +kernel⟩, List.mem_of_getElem? (i := 26) (by decide +kernel), List.mem_of_getElem? (i := 126) (by decide +kernel), List.mem_of_getElem? (i := 127) (by decide +kernel)⟩
theorem lw_p7 : lw_okq (⟨"CapitalReckoner", "bareWith", "(LCapitalReckoner$Exposure;I)I"⟩, 9) := ⟨⟨by decide +kernel, by decide +kernel⟩, List.mem_of_getElem? (i := 14) (by decide +kernel), List.mem_of_getElem? (i := 133) (by decide +kernel), List.mem_of_getElem? (i := 134) (by decide +kernel)⟩
theorem lw_p8 : lw_okq (⟨"CapitalReckoner$Exposure", "amountNow", "()I"⟩, 8) := ⟨⟨by decide +kernel, by decide +kernel⟩, List.mem_of_getElem? (i := 139) (by decide +kernel), List.mem_of_getElem? (i := 137) (by decide +kernel), List.mem_of_getElem? (i := 138) (by decide +kernel)⟩
theorem lw_p9 : lw_okq (⟨"CapitalReckoner$Piece", "valueFor", "(LCapitalReckoner$Exposure;)I"⟩, 5) := ⟨⟨by decide +kernel, by decide +kernel⟩, List.mem_of_getElem? (i := 148) (by decide +kernel), List.mem_of_getElem? (i := 146) (by decide +kernel), List.mem_of_getElem? (i := 147) (by decide +kernel)⟩
theorem lw_p10 : lw_okq (⟨"CapitalReckoner", "weightedOf", "(LCapitalReckoner$Exposure;I)I"⟩, 9) := ⟨⟨by decide +kernel, by decide +kernel⟩, List.mem_of_getElem? (i := 14) (by decide +kernel), List.mem_of_getElem? (i := 155) (by decide +kernel), List.mem_of_getElem? (i := 156) (by decide +kernel)⟩
theorem lw_p11 : lw_okq (⟨"CapitalReckoner$Search", "setWeighted", "(III)V"⟩, 7) := ⟨⟨by decide +kernel, by decide +kernel⟩, List.mem_of_getElem? (i := 26) (by decide +kernel), List.mem_of_getElem? (i := 164) (by decide +kernel), List.mem_of_getElem? (i := 165) (by decide +kernel)⟩
theorem lw_p12 : lw_okq (⟨"CapitalReckoner$Search", "findLeast", "()V"⟩, 7) := ⟨⟨by decide +kernel, by decide +kernel⟩, List.mem_of_getElem? (i := 26) (by decide +kernel), List.mem_of_getElem? (i := 168) (by decide +kernel), List.mem_of_getElem? (i := 169) (by decide +kernel)⟩
theorem lw_p13 : lw_okq (⟨"CapitalReckoner$Search", "fillPrices", "(I)V"⟩, 7) := ⟨⟨by decide +kernel, by decide +kernel⟩, List.mem_of_getElem? (i := 26) (by decide +kernel), List.mem_of_getElem? (i := 179) (by decide +kernel), List.mem_of_getElem? (i := 180) (by decide +kernel)⟩
theorem lw_p14 : lw_okq (⟨"CapitalReckoner$Search", "weightedWith", "(II)I"⟩, 7) := ⟨⟨by decide +kernel, by decide +kernel⟩, List.mem_of_getElem? (i := 26) (by decide +kernel), List.mem_of_getElem? (i := 183) (by decide +kernel), List.mem_of_getElem? (i := 184) (by decide +kernel)⟩
theorem lw_p15 : lw_okq (⟨"CapitalReckoner$Search", "leastOf", "(II)J"⟩, 7) := ⟨⟨by decide +kernel, by decide +kernel⟩, List.mem_of_getElem? (i := 26) (by decide +kernel), List.mem_of_getElem? (i := 188) (by decide +kernel), List.mem_of_getElem? (i := 189) (by decide +kernel)⟩
def lw_privs_1 : List (MethodName × Nat) := [(⟨"CapitalReckoner", "findBest", "()V"⟩, 9), (⟨"CapitalReckoner", "fillSearch", "()V"⟩, 9), (⟨"CapitalReckoner$Search", "begin", "(II)V"⟩, 7), (⟨"CapitalReckoner", "exposureAt", "(I)LCapitalReckoner$Exposure;"⟩, 9), (⟨"CapitalReckoner", "usableFor", "(I)I"⟩, 9), (⟨"CapitalReckoner", "pieceAt", "(I)LCapitalReckoner$Piece;"⟩, 9), (⟨"CapitalReckoner$Search", "setUsable", "(II)V"⟩, 7), (⟨"CapitalReckoner", "bareWith", "(LCapitalReckoner$Exposure;I)I"⟩, 9), (⟨"CapitalReckoner$Exposure", "amountNow", "()I"⟩, 8), (⟨"CapitalReckoner$Piece", "valueFor", "(LCapitalReckoner$Exposure;)I"⟩, 5), (⟨"CapitalReckoner", "weightedOf", "(LCapitalReckoner$Exposure;I)I"⟩, 9), (⟨"CapitalReckoner$Search", "setWeighted", "(III)V"⟩, 7), (⟨"CapitalReckoner$Search", "findLeast", "()V"⟩, 7), (⟨"CapitalReckoner$Search", "fillPrices", "(I)V"⟩, 7), (⟨"CapitalReckoner$Search", "weightedWith", "(II)I"⟩, 7), (⟨"CapitalReckoner$Search", "leastOf", "(II)J"⟩, 7)]
theorem lw_r1 : ∀ q ∈ lw_privs_1, lw_okq q := List.forall_mem_cons.mpr ⟨lw_p0, List.forall_mem_cons.mpr ⟨lw_p1, List.forall_mem_cons.mpr ⟨lw_p2, List.forall_mem_cons.mpr ⟨lw_p3, List.forall_mem_cons.mpr ⟨lw_p4, List.forall_mem_cons.mpr ⟨lw_p5, List.forall_mem_cons.mpr ⟨lw_p6, List.forall_mem_cons.mpr ⟨lw_p7, List.forall_mem_cons.mpr ⟨lw_p8, List.forall_mem_cons.mpr ⟨lw_p9, List.forall_mem_cons.mpr ⟨lw_p10, List.forall_mem_cons.mpr ⟨lw_p11, List.forall_mem_cons.mpr ⟨lw_p12, List.forall_mem_cons.mpr ⟨lw_p13, List.forall_mem_cons.mpr ⟨lw_p14, List.forall_mem_cons.mpr ⟨lw_p15, fun _ h => absurd h List.not_mem_nil⟩⟩⟩⟩⟩⟩⟩⟩⟩⟩⟩⟩⟩⟩⟩⟩
theorem lw_p16 : lw_okq (⟨"CapitalReckoner$Search", "priceOf", "(I)J"⟩, 7) := ⟨⟨by decide +kernel, by decide +kernel⟩, List.mem_of_getElem? (i := 26) (by decide +kernel), List.mem_of_getElem? (i := 192) (by decide +kernel), List.mem_of_getElem? (i := 193) (by decide +kernel)⟩
theorem lw_p17 : lw_okq (⟨"CapitalReckoner$Search", "leastKey", "(I)J"⟩, 7) := ⟨⟨by decide +kernel, by decide +kernel⟩, List.mem_of_getElem? (i := 26) (by decide +kernel), List.mem_of_getElem? (i := 196) (by decide +kernel), List.mem_of_getElem? (i := 197) (by decide +kernel)⟩
theorem lw_p18 : lw_okq (⟨"CapitalReckoner$Search", "bestWhole", "()I"⟩, 7) := ⟨⟨by decide +kernel, by decide +kernel⟩, List.mem_of_getElem? (i := 26) (by decide +kernel), List.mem_of_getElem? (i := 203) (by decide +kernel), List.mem_of_getElem? (i := 204) (by decide +kernel)⟩
theorem lw_p19 : lw_okq (⟨"CapitalReckoner$Search", "bestKey", "()J"⟩, 7) := ⟨⟨by decide +kernel, by decide +kernel⟩, List.mem_of_getElem? (i := 26) (by decide +kernel), List.mem_of_getElem? (i := 207) (by decide +kernel), List.mem_of_getElem? (i := 208) (by decide +kernel)⟩
theorem lw_p20 : lw_okq (⟨"CapitalReckoner$Search", "allGifts", "()I"⟩, 7) := ⟨⟨by decide +kernel, by decide +kernel⟩, List.mem_of_getElem? (i := 26) (by decide +kernel), List.mem_of_getElem? (i := 211) (by decide +kernel), List.mem_of_getElem? (i := 212) (by decide +kernel)⟩
theorem lw_p21 : lw_okq (⟨"CapitalReckoner$Search", "triedWhole", "()I"⟩, 7) := ⟨⟨by decide +kernel, by decide +kernel⟩, List.mem_of_getElem? (i := 26) (by decide +kernel), List.mem_of_getElem? (i := 219) (by decide +kernel), List.mem_of_getElem? (i := 220) (by decide +kernel)⟩
theorem lw_p22 : lw_okq (⟨"CapitalReckoner", "bareOfParty", "(I)I"⟩, 9) := ⟨⟨by decide +kernel, by decide +kernel⟩, List.mem_of_getElem? (i := 14) (by decide +kernel), List.mem_of_getElem? (i := 240) (by decide +kernel), List.mem_of_getElem? (i := 241) (by decide +kernel)⟩
theorem lw_p23 : lw_okq (⟨"CapitalReckoner$Search", "givenSet", "(I)I"⟩, 7) := ⟨⟨by decide +kernel, by decide +kernel⟩, List.mem_of_getElem? (i := 26) (by decide +kernel), List.mem_of_getElem? (i := 244) (by decide +kernel), List.mem_of_getElem? (i := 245) (by decide +kernel)⟩
theorem lw_p24 : lw_okq (⟨"CapitalReckoner$Search", "takerOf", "(I)I"⟩, 7) := ⟨⟨by decide +kernel, by decide +kernel⟩, List.mem_of_getElem? (i := 26) (by decide +kernel), List.mem_of_getElem? (i := 248) (by decide +kernel), List.mem_of_getElem? (i := 249) (by decide +kernel)⟩
theorem lw_p25 : lw_okq (⟨"java/lang/Throwable", "fillInStackTrace", "(I)Ljava/lang/Throwable;"⟩, 6) := ⟨⟨by decide +kernel, by decide +kernel⟩, List.mem_of_getElem? (i := 305) (by decide +kernel), List.mem_of_getElem? (i := 303) (by decide +kernel), List.mem_of_getElem? (i := 304) (by decide +kernel)⟩
theorem lw_p26 : lw_okq (⟨"CapitalReckoner$Search", "wholeWithout", "(I)I"⟩, 7) := ⟨⟨by decide +kernel, by decide +kernel⟩, List.mem_of_getElem? (i := 26) (by decide +kernel), List.mem_of_getElem? (i := 560) (by decide +kernel), List.mem_of_getElem? (i := 561) (by decide +kernel)⟩
theorem lw_p27 : lw_okq (⟨"CapitalReckonerModel", "isExposure", "(I)Z"⟩, 23) := ⟨⟨by decide +kernel, by decide +kernel⟩, List.mem_of_getElem? (i := 572) (by decide +kernel), List.mem_of_getElem? (i := 683) (by decide +kernel), List.mem_of_getElem? (i := 684) (by decide +kernel)⟩
theorem lw_p28 : lw_okq (⟨"CapitalReckonerModel", "amounts", "(I)I"⟩, 23) := ⟨⟨by decide +kernel, by decide +kernel⟩, List.mem_of_getElem? (i := 572) (by decide +kernel), List.mem_of_getElem? (i := 704) (by decide +kernel), List.mem_of_getElem? (i := 705) (by decide +kernel)⟩
theorem lw_p29 : lw_okq (⟨"CapitalReckonerModel", "isPiece", "(I)Z"⟩, 23) := ⟨⟨by decide +kernel, by decide +kernel⟩, List.mem_of_getElem? (i := 572) (by decide +kernel), List.mem_of_getElem? (i := 720) (by decide +kernel), List.mem_of_getElem? (i := 721) (by decide +kernel)⟩
theorem lw_p30 : lw_okq (⟨"CapitalReckonerModel", "valued", "(II)I"⟩, 23) := ⟨⟨by decide +kernel, by decide +kernel⟩, List.mem_of_getElem? (i := 572) (by decide +kernel), List.mem_of_getElem? (i := 732) (by decide +kernel), List.mem_of_getElem? (i := 733) (by decide +kernel)⟩
theorem lw_p31 : lw_okq (⟨"CapitalReckonerModel", "bests", "()I"⟩, 23) := ⟨⟨by decide +kernel, by decide +kernel⟩, List.mem_of_getElem? (i := 572) (by decide +kernel), List.mem_of_getElem? (i := 740) (by decide +kernel), List.mem_of_getElem? (i := 741) (by decide +kernel)⟩
def lw_privs_2 : List (MethodName × Nat) := [(⟨"CapitalReckoner$Search", "priceOf", "(I)J"⟩, 7), (⟨"CapitalReckoner$Search", "leastKey", "(I)J"⟩, 7), (⟨"CapitalReckoner$Search", "bestWhole", "()I"⟩, 7), (⟨"CapitalReckoner$Search", "bestKey", "()J"⟩, 7), (⟨"CapitalReckoner$Search", "allGifts", "()I"⟩, 7), (⟨"CapitalReckoner$Search", "triedWhole", "()I"⟩, 7), (⟨"CapitalReckoner", "bareOfParty", "(I)I"⟩, 9), (⟨"CapitalReckoner$Search", "givenSet", "(I)I"⟩, 7), (⟨"CapitalReckoner$Search", "takerOf", "(I)I"⟩, 7), (⟨"java/lang/Throwable", "fillInStackTrace", "(I)Ljava/lang/Throwable;"⟩, 6), (⟨"CapitalReckoner$Search", "wholeWithout", "(I)I"⟩, 7), (⟨"CapitalReckonerModel", "isExposure", "(I)Z"⟩, 23), (⟨"CapitalReckonerModel", "amounts", "(I)I"⟩, 23), (⟨"CapitalReckonerModel", "isPiece", "(I)Z"⟩, 23), (⟨"CapitalReckonerModel", "valued", "(II)I"⟩, 23), (⟨"CapitalReckonerModel", "bests", "()I"⟩, 23)]
theorem lw_r2 : ∀ q ∈ lw_privs_2, lw_okq q := List.forall_mem_cons.mpr ⟨lw_p16, List.forall_mem_cons.mpr ⟨lw_p17, List.forall_mem_cons.mpr ⟨lw_p18, List.forall_mem_cons.mpr ⟨lw_p19, List.forall_mem_cons.mpr ⟨lw_p20, List.forall_mem_cons.mpr ⟨lw_p21, List.forall_mem_cons.mpr ⟨lw_p22, List.forall_mem_cons.mpr ⟨lw_p23, List.forall_mem_cons.mpr ⟨lw_p24, List.forall_mem_cons.mpr ⟨lw_p25, List.forall_mem_cons.mpr ⟨lw_p26, List.forall_mem_cons.mpr ⟨lw_p27, List.forall_mem_cons.mpr ⟨lw_p28, List.forall_mem_cons.mpr ⟨lw_p29, List.forall_mem_cons.mpr ⟨lw_p30, List.forall_mem_cons.mpr ⟨lw_p31, fun _ h => absurd h List.not_mem_nil⟩⟩⟩⟩⟩⟩⟩⟩⟩⟩⟩⟩⟩⟩⟩⟩
theorem lw_p32 : lw_okq (⟨"CapitalReckonerModel", "lays", "()V"⟩, 23) := ⟨⟨by decide +kernel, by decide +kernel⟩, List.mem_of_getElem? (i := 572) (by decide +kernel), List.mem_of_getElem? (i := 744) (by decide +kernel), List.mem_of_getElem? (i := 745) (by decide +kernel)⟩
theorem lw_p33 : lw_okq (⟨"CapitalReckonerModel", "weighed", "(II)I"⟩, 23) := ⟨⟨by decide +kernel, by decide +kernel⟩, List.mem_of_getElem? (i := 572) (by decide +kernel), List.mem_of_getElem? (i := 748) (by decide +kernel), List.mem_of_getElem? (i := 749) (by decide +kernel)⟩
theorem lw_p34 : lw_okq (⟨"CapitalReckonerModel", "bared", "(II)I"⟩, 23) := ⟨⟨by decide +kernel, by decide +kernel⟩, List.mem_of_getElem? (i := 572) (by decide +kernel), List.mem_of_getElem? (i := 752) (by decide +kernel), List.mem_of_getElem? (i := 753) (by decide +kernel)⟩
theorem lw_p35 : lw_okq (⟨"CapitalReckonerModel", "leastWhole", "()I"⟩, 23) := ⟨⟨by decide +kernel, by decide +kernel⟩, List.mem_of_getElem? (i := 572) (by decide +kernel), List.mem_of_getElem? (i := 756) (by decide +kernel), List.mem_of_getElem? (i := 757) (by decide +kernel)⟩
theorem lw_p36 : lw_okq (⟨"CapitalReckonerModel", "fits", "(II)Z"⟩, 23) := ⟨⟨by decide +kernel, by decide +kernel⟩, List.mem_of_getElem? (i := 572) (by decide +kernel), List.mem_of_getElem? (i := 760) (by decide +kernel), List.mem_of_getElem? (i := 761) (by decide +kernel)⟩
theorem lw_p37 : lw_okq (⟨"CapitalReckonerModel", "setOf", "(I)I"⟩, 23) := ⟨⟨by decide +kernel, by decide +kernel⟩, List.mem_of_getElem? (i := 572) (by decide +kernel), List.mem_of_getElem? (i := 768) (by decide +kernel), List.mem_of_getElem? (i := 769) (by decide +kernel)⟩
theorem lw_p38 : lw_okq (⟨"CapitalReckonerModel", "wholes", "()I"⟩, 23) := ⟨⟨by decide +kernel, by decide +kernel⟩, List.mem_of_getElem? (i := 572) (by decide +kernel), List.mem_of_getElem? (i := 780) (by decide +kernel), List.mem_of_getElem? (i := 781) (by decide +kernel)⟩
theorem lw_p39 : lw_okq (⟨"CapitalReckonerModel", "plains", "()I"⟩, 23) := ⟨⟨by decide +kernel, by decide +kernel⟩, List.mem_of_getElem? (i := 572) (by decide +kernel), List.mem_of_getElem? (i := 796) (by decide +kernel), List.mem_of_getElem? (i := 797) (by decide +kernel)⟩
theorem lw_p40 : lw_okq (⟨"CapitalReckonerModel", "baredOf", "(I)I"⟩, 23) := ⟨⟨by decide +kernel, by decide +kernel⟩, List.mem_of_getElem? (i := 572) (by decide +kernel), List.mem_of_getElem? (i := 808) (by decide +kernel), List.mem_of_getElem? (i := 809) (by decide +kernel)⟩
def lw_privs_3 : List (MethodName × Nat) := [(⟨"CapitalReckonerModel", "lays", "()V"⟩, 23), (⟨"CapitalReckonerModel", "weighed", "(II)I"⟩, 23), (⟨"CapitalReckonerModel", "bared", "(II)I"⟩, 23), (⟨"CapitalReckonerModel", "leastWhole", "()I"⟩, 23), (⟨"CapitalReckonerModel", "fits", "(II)Z"⟩, 23), (⟨"CapitalReckonerModel", "setOf", "(I)I"⟩, 23), (⟨"CapitalReckonerModel", "wholes", "()I"⟩, 23), (⟨"CapitalReckonerModel", "plains", "()I"⟩, 23), (⟨"CapitalReckonerModel", "baredOf", "(I)I"⟩, 23)]
theorem lw_r3 : ∀ q ∈ lw_privs_3, lw_okq q := List.forall_mem_cons.mpr ⟨lw_p32, List.forall_mem_cons.mpr ⟨lw_p33, List.forall_mem_cons.mpr ⟨lw_p34, List.forall_mem_cons.mpr ⟨lw_p35, List.forall_mem_cons.mpr ⟨lw_p36, List.forall_mem_cons.mpr ⟨lw_p37, List.forall_mem_cons.mpr ⟨lw_p38, List.forall_mem_cons.mpr ⟨lw_p39, List.forall_mem_cons.mpr ⟨lw_p40, fun _ h => absurd h List.not_mem_nil⟩⟩⟩⟩⟩⟩⟩⟩⟩
def lw_privs : List (MethodName × Nat) := lw_privs_1 ++ (lw_privs_2 ++ (lw_privs_3))
def lw_tbl : List Cond := k2_sels lw_privs ++ tables_1
theorem lw_privs_ok : ∀ q ∈ lw_privs, lw_okq q := by
  show ∀ q ∈ lw_privs_1 ++ (lw_privs_2 ++ (lw_privs_3)), lw_okq q
  exact List.forall_mem_append.mpr ⟨lw_r1, List.forall_mem_append.mpr ⟨lw_r2, lw_r3⟩⟩
end
section
/-! ===== BEGIN words of one list among another's, by their places ===== -/
theorem goodIn_r {big : List Cond} (ws : List Cond) (ps : List Nat) (hp : ws = ps.filterMap (fun i => big[i]?)) (h : ws.all goodWord = true) : GoodIn big ws := by
  intro w hw
  have h1 := List.all_eq_true.mp h w hw
  rw [hp] at hw
  obtain ⟨i, -, hi⟩ := List.mem_filterMap.mp hw
  have hm : w ∈ big := by first | exact List.mem_of_getElem? hi | exact List.getElem?_mem hi
  exact ⟨hm, good_of_word h1⟩
theorem goodIn_app {big a b : List Cond} (ha : GoodIn big a) (hb : GoodIn big b) : GoodIn big (a ++ b) := fun w h => (List.mem_append.mp h).elim (ha w) (hb w)
theorem goodIn_ca {big a b : List Cond} {c : Cond} (ha : GoodIn big (c :: a)) (hb : GoodIn big b) : GoodIn big (c :: (a ++ b)) := fun w h => (List.mem_cons.mp h).elim (fun e => ha w (List.mem_cons.mpr (Or.inl e))) (fun h => (List.mem_append.mp h).elim (fun h => ha w (List.mem_cons.mpr (Or.inr h))) (hb w))
theorem goodIn_sub {big ws : List Cond} (hm : ∀ w ∈ ws, w ∈ big) (h : ws.all goodWord = true) : GoodIn big ws := fun w hw => ⟨hm w hw, good_of_word (List.all_eq_true.mp h w hw)⟩
/-! ===== END ===== -/

/-! ===== BEGIN exceptions that leave a method, and their catching by the caller (launches without stack traces) ===== -/
section VXA
/-! The laws vx_back, vx_callV, vx_callS, vx_callSW, vx_throw0, vx_throwS follow proofs of the library, with one case more: JvmDerived/Free/Laws.lean (Back.of_free), Shelf42/LK1.lean (callV, callS), Shelf/KitTraced.lean (throwNew0V, throwNewS). -/
/-- where a method has thrown q: the class by its name, the cell, what was written, the world -/
def vx_T (XC : String → State → State → Prop) (st : State) (q : Addr) (t : State) (mc ms : Nat) (free : Addr → Prop) : Prop :=
  ∃ (E : String) (ce : Cell) (L : List Loc), XC E st t ∧ t.heap[q]? = some ce ∧ ce.vm = .none ∧ st.vm.findClass E = some ce.cls ∧ st.WarmedH t.vm ∧ st.sameButNew ({ t with vm := st.vm } : State) L mc ms ∧ ∀ z ∈ L, free z.base
def vx_Q (Qc : Array Value → State → Outcome → State → Prop) (XC : String → State → State → Prop) (mc ms : Nat) (free : Addr → Prop) : Array Value → State → Outcome → State → Prop := fun a st o t =>
  (Qc a st o t ∧ ∃ L, FrameEnd st o t L mc ms ∧ ∀ q ∈ L, free q.base) ∨ ∃ q, o = .threw q ∧ vx_T XC st q t mc ms free
/-- a callee that returns or throws -/
def vx_Met (l : Launch) (y : MethodName) (ws : List Cond) (rm : Room) (Pc : Array Value → State → Prop) (Qc : Array Value → State → Outcome → State → Prop) (XC : String → State → State → Prop) (mc ms : Nat) (free : Addr → Prop) : Prop :=
  MetFree l y (headSpec ws rm) Pc (fun _ _ _ _ _ => True) (vx_Q Qc XC mc ms free)
def vx_Post (XC : String → State → State → Prop) (mc ms : Nat) (free : Addr → Prop) : Pt → Array Value → Addr → Pt → Prop := fun A a q B =>
  ∃ (g : JFrame) (mk : MethodId) (t : State) (L : List Loc) (E : String) (ce : Cell), B.U.heap = t.heap ∧ B.U.vm = t.vm ∧ XC E (A.U.calling g mk a) t ∧ t.heap[q]? = some ce ∧ ce.vm = .none ∧ A.U.vm.findClass E = some ce.cls ∧ B.locs = A.locs ++ L ∧ (∀ z ∈ L, free z.base) ∧ B.cells = A.cells + mc ∧ B.slots = A.slots + ms
def vx_Back (l : Launch) (R : Room) (p : Program) (e : Env) (below : List Frame) (s : State) (sargs : Array Value) (y : MethodName) (len W9 : Nat)
    (Pre : Pt → Array Value → Prop) (Post : Pt → Array Value → Option Value → Pt → Prop) (PostX : Pt → Array Value → Addr → Pt → Prop) : Prop :=
  ∀ (m : MethodId) (meth : Method) (c : Code) (A : Pt) (g : JFrame) (ig : Instr) (mk : MethodId) (a : Array Value),
    Stand p l e R s m sargs below meth c A.U A.locs A.cells A.slots → g.method = m → g.locals.size = c.maxLocals → decode c.code g.pc = .ok (ig, len) →
    2 * g.monitorRoom + (g.stack.map fun v => v.category).sum ≤ W9 → A.U.methodNamed? y = some mk → Pre A a →
    (∃ (v : Option Value) (B : Pt), Stand p l e R s m sargs below meth c B.U B.locs B.cells B.slots ∧ Post A a v B ∧
      Steps p.tables e below (doInvoke e (A.U.setTop g) [] mk a).1 (B.U.setTop { g with pc := g.pc + len, stack := v.toList ++ g.stack })) ∨
    (∃ (q : Addr) (B : Pt), Stand p l e R s m sargs below meth c B.U B.locs B.cells B.slots ∧ PostX A a q B ∧
      Steps p.tables e below (doInvoke e (A.U.setTop g) [] mk a).1 ((B.U.setTop g).pushFrame (.throwing q)))
section Payer
variable {l : Launch} {R : Room} {p : Program} {e : Env} {below : List Frame} {s : State} {sargs : Array Value} {y : MethodName} {len W9 : Nat}
theorem vx_back {ws : List Cond} {rm : Room} {Pc : Array Value → State → Prop} {Qc : Array Value → State → Outcome → State → Prop} {XC : String → State → State → Prop} {mc ms : Nat} {free : Addr → Prop} {bytes : ByteArray} {maxL : Nat} {ret : Option FieldType}
    (hM : vx_Met l y ws rm Pc Qc XC mc ms free) (hblind : FrameBlind Pc) (hrc : rm.cells = mc) (hrs : rm.slots = ms)
    (hframes : rm.frames + 1 ≤ R.frames) (hlocals : W9 + (maxL + 11) + rm.locals ≤ R.locals)
    (hws : ∀ w ∈ ws, ∀ a' U, s.WarmedH U.vm → w.before a' U = true) (hcode : Cond.code y bytes maxL ret ∈ ws) (hinit : ∀ a' U, s.WarmedH U.vm → (Cond.initialized y.cls).before a' U = true) :
    vx_Back l R p e below s sargs y len W9 (PreOf R mc ms Pc) (PostOf Qc mc ms free) (vx_Post XC mc ms free) := by
  intro m meth c A g ig mk a X hg hsize hdg hW hn hp
  have h1 : (headSpec ws rm).pre.before a A.U = true := atoms_intro fun w hw => hws w hw _ _ X.warmed
  have h2 : (Cond.code y bytes maxL ret).before a A.U = true := hws _ hcode _ _ X.warmed
  have h3 : (Cond.initialized y.cls).before a A.U = true := hinit _ _ X.warmed
  have h4 : A.cells + (headSpec ws rm).room.cells ≤ R.cells := by rw [show (headSpec ws rm).room.cells = mc from hrc]; exact hp.1
  have h5 : A.slots + (headSpec ws rm).room.slots ≤ R.slots := by rw [show (headSpec ws rm).room.slots = ms from hrs]; exact hp.2.1
  have hPc : Pc a (A.U.calling g mk a) := hblind _ _ _ _ hp.2.2
  obtain ⟨U, Ls, c0, s0⟩ := A
  dsimp only [Pt.U, Pt.locs, Pt.cells, Pt.slots] at h1 h2 h3 h4 h5 X hn hPc ⊢
  obtain ⟨methY, cY, hmY, hcY, -, hlY, -, -, -, -⟩ := Cond.code_spec hn h2
  obtain ⟨kY, hkY, -⟩ := className_of_methodNamed hn
  have hinitY : kY.init = .initialized := Cond.initialized_spec (findClass_of_methodNamed hn) hkY h3
  have h : At U g.method c below := by rw [hg]; exact X.here
  have hlocals9 : W9 + (maxL + 11) + (headSpec ws rm).room.locals ≤ R.locals := hlocals
  have happ : (headSpec ws rm).appliesLoose y e.platform (U.calling g mk a) = true :=
    Spec.appliesLoose_calling (g := g) h hdg hn hkY hinitY
      (X.room_calling (g := g) (R' := (headSpec ws rm).room) hsize hmY hcY hframes (by rw [hlY]; omega) h4 h5) h1
  obtain ⟨mid, hmid⟩ := h.above
  have hfr : (U.setTop g).frames = (.java g :: mid) ++ below := by rw [State.frames_setTop' g h.top, hmid]; rfl
  obtain ⟨o, s₂, hsteps, -, hend, hq⟩ := Steps.callFree hM p X.admits X.cas X.clock (acts := []) hfr happ hPc trivial
  have hq' : vx_Q Qc XC mc ms free a (U.calling g mk a) o s₂ := hq
  rw [State.frames_setTop' g h.top] at hend
  obtain ⟨g₀, hg0⟩ := Option.isSome_iff_exists.mp h.top
  obtain ⟨r, hr⟩ := State.topJava?_eq_some.mp hg0
  have hr' : (({ U with heap := s₂.heap, slotsUsed := s₂.slotsUsed } : State).setVm s₂.vm).frames = .java g₀ :: r := hr
  rcases hq' with ⟨hqc, L, hfe, hL⟩ | ⟨q, rfl, E, ce, L, hx, hce, hcv, hcl, hW₂, hsm, hL⟩
  · obtain ⟨⟨v, rfl⟩, hW₂, e2, q2, q3, q4, q5, q6⟩ := id hfe
    have e3 : s₂ = ({ (U.calling g mk a).setFrames s₂.frames with heap := s₂.heap, slotsUsed := s₂.slotsUsed } : State).setVm s₂.vm := by
      have : s₂ = ({ s₂ with vm := (U.calling g mk a).vm } : State).setVm s₂.vm := rfl
      rw [e2] at this
      exact this
    obtain ⟨c₂, i₂, len₂, hc₂, hd₂, hf₂⟩ := hend
    have hW' : U.WarmedH s₂.vm := hW₂
    have hcc : c₂ = c := by
      have h1 : s₂.code? g.method = U.code? g.method := by
        rw [State.code?_eq, State.code?_eq, hW'.alike.method?]
      exact Option.some.inj (hc₂.symm.trans (h1.trans h.code))
    subst hcc
    have hlen : len₂ = len := by rw [hdg] at hd₂; cases hd₂; rfl
    subst hlen
    have hs₂ : s₂ = (({ U with heap := s₂.heap, slotsUsed := s₂.slotsUsed } : State).setVm s₂.vm).setTop { g with pc := g.pc + len₂, stack := v.toList ++ g.stack } := by
      refine e3.trans ?_
      rw [hf₂, State.calling_eq h.top, State.setFrames_setFrames, State.setTop_of_frames _ hr', hr]
      rfl
    have hsame : U.sameButNew ({ U with heap := s₂.heap, slotsUsed := s₂.slotsUsed } : State) L mc ms := by
      refine ⟨?_, q2, q3, q4, q5, q6⟩
      obtain ⟨t, ht, -⟩ := State.frames_cons hr
      show ({ U with heap := s₂.heap, slotsUsed := s₂.slotsUsed } : State) = { U.setFrames U.frames with heap := s₂.heap, slotsUsed := s₂.slotsUsed }
      rw [State.setFrames_self ht]
    subst hg
    refine Or.inl ⟨v, ⟨(({ U with heap := s₂.heap, slotsUsed := s₂.slotsUsed } : State).setVm s₂.vm), Ls ++ L, c0 + mc, s0 + ms⟩,
      ⟨X.admits, X.cas, X.clock, X.frames, X.room, X.hears, X.method, X.code, (X.here.setHeapUsed s₂.heap s₂.slotsUsed).setVm hW'.alike, X.tail, State.WarmedH.trans X.warmed hW', X.limits, X.bytes, X.same.trans (hsame.setVm s.vm)⟩,
      ⟨g, mk, s₂, L, rfl, rfl, hqc, rfl, hL, rfl, rfl⟩, ?_⟩
    show Steps p.tables e below _ ((({ U with heap := s₂.heap, slotsUsed := s₂.slotsUsed } : State).setVm s₂.vm).setTop { g with pc := g.pc + len₂, stack := v.toList ++ g.stack })
    rw [← hs₂]
    exact hsteps
  · obtain ⟨e2, q2, q3, q4, q5, q6⟩ := id hsm
    have e3 : s₂ = ({ (U.calling g mk a).setFrames s₂.frames with heap := s₂.heap, slotsUsed := s₂.slotsUsed } : State).setVm s₂.vm := by
      have : s₂ = ({ s₂ with vm := (U.calling g mk a).vm } : State).setVm s₂.vm := rfl
      rw [e2] at this
      exact this
    have hf₂ : s₂.frames = .throwing q :: .java g :: U.frames.tail := hend
    have hW' : U.WarmedH s₂.vm := hW₂
    have hs₂ : s₂ = ((({ U with heap := s₂.heap, slotsUsed := s₂.slotsUsed } : State).setVm s₂.vm).setTop g).pushFrame (.throwing q) := by
      refine e3.trans ?_
      rw [hf₂, State.calling_eq h.top, State.setFrames_setFrames, State.pushFrame, State.frames_setTop _ hr', State.setTop_of_frames _ hr', State.setFrames_setFrames, hr]
      rfl
    have hsame : U.sameButNew ({ U with heap := s₂.heap, slotsUsed := s₂.slotsUsed } : State) L mc ms := by
      refine ⟨?_, q2, q3, q4, q5, q6⟩
      obtain ⟨t, ht, -⟩ := State.frames_cons hr
      show ({ U with heap := s₂.heap, slotsUsed := s₂.slotsUsed } : State) = { U.setFrames U.frames with heap := s₂.heap, slotsUsed := s₂.slotsUsed }
      rw [State.setFrames_self ht]
    subst hg
    refine Or.inr ⟨q, ⟨(({ U with heap := s₂.heap, slotsUsed := s₂.slotsUsed } : State).setVm s₂.vm), Ls ++ L, c0 + mc, s0 + ms⟩,
      ⟨X.admits, X.cas, X.clock, X.frames, X.room, X.hears, X.method, X.code, (X.here.setHeapUsed s₂.heap s₂.slotsUsed).setVm hW'.alike, X.tail, State.WarmedH.trans X.warmed hW', X.limits, X.bytes, X.same.trans (hsame.setVm s.vm)⟩,
      ⟨g, mk, s₂, L, E, ce, rfl, rfl, hx, hce, hcv, hcl, rfl, hL, rfl, rfl⟩, ?_⟩
    show Steps p.tables e below _ (((({ U with heap := s₂.heap, slotsUsed := s₂.slotsUsed } : State).setVm s₂.vm).setTop g).pushFrame (.throwing q))
    rw [← hs₂]
    exact hsteps
end Payer
section Calls
variable {p : Program} {l : Launch} {e : Env} {R : Room} {s : State} {m : MethodId} {args : Array Value} {below : List Frame} {meth : Method} {c : Code} {T : State} {locs : List Loc} {cells slots : Nat}
theorem vx_callV (X : Stand p l e R s m args below meth c T locs cells slots) (hexec : p.tables.exec = Jvm.exec) {own C : String} {index : Nat} {y : MethodName} {bytes : ByteArray} {maxL : Nat} {ret : Option FieldType}
    (hown : s.vm.findClass own = some m.cls) (hlink : (Cond.methodLink own index y).before args s = true) (hinst : (Cond.instanceMethod y).before args s = true) (hsel : (Cond.selects C y y).before args s = true)
    (hcode : (Cond.code y bytes maxL ret).before args s = true) (hy : y.cls ≠ "java/lang/invoke/MethodHandle" ∧ y.cls ≠ "java/lang/invoke/VarHandle")
    {W9 : Nat} {Pre : Pt → Array Value → Prop} {Post : Pt → Array Value → Option Value → Pt → Prop} {PostX : Pt → Array Value → Addr → Pt → Prop} (hK : vx_Back l R p e below s args y 3 W9 Pre Post PostX)
    {b : Addr} {cellB : Cell} (hcell : T.heap[b]? = some cellB) (hobj : cellB.vm.isStatics = false) (hcls : s.vm.findClass C = some cellB.cls)
    {g : JFrame} (hg : g.method = m) (hsize : g.locals.size = c.maxLocals) {argsL rest : List Value} (hlen : ∀ sig, parseMethodDescriptor y.desc = some sig → argsL.length = sig.parameters.length)
    (hstack : g.stack = argsL.reverse ++ .ref b :: rest) (hW : 2 * g.monitorRoom + (rest.map fun v => v.category).sum ≤ W9) (hdg : decode c.code g.pc = .ok (.invokevirtual index, 3))
    (hpre : ∀ vm₁, s.WarmedH vm₁ → Pre ⟨T.setVm vm₁, locs, cells, slots⟩ (Value.ref b :: argsL).toArray) :
    (∃ (v : Option Value) (vm₁ : Vm) (B : Pt), s.WarmedH vm₁ ∧ Stand p l e R s m args below meth c B.U B.locs B.cells B.slots ∧ Post ⟨T.setVm vm₁, locs, cells, slots⟩ (Value.ref b :: argsL).toArray v B ∧
      ∀ target, Steps p.tables e below (B.U.setTop { g with pc := g.pc + 3, stack := v.toList ++ rest }) target → Steps p.tables e below (T.setTop g) target) ∨
    (∃ (q : Addr) (vm₁ : Vm) (B : Pt), s.WarmedH vm₁ ∧ Stand p l e R s m args below meth c B.U B.locs B.cells B.slots ∧ PostX ⟨T.setVm vm₁, locs, cells, slots⟩ (Value.ref b :: argsL).toArray q B ∧
      Steps p.tables e below (T.setTop g) ((B.U.setTop { g with stack := rest }).pushFrame (.throwing q))) := by
  obtain ⟨mk, methM, hnamed, hmethM, hstM, habM⟩ := Cond.instanceMethod_spec hinst
  obtain ⟨methM', cM, hmethM', -, -, -, -, -, -, hsigM⟩ := Cond.code_spec hnamed hcode
  cases hmethM.symm.trans hmethM'
  obtain ⟨c2, r2, m2, q1, q2, q3, q4, kP, hkP, hkPi⟩ := Cond.selects_spec hsel
  cases hcls.symm.trans q1
  cases (State.methodFound?_of_named hnamed hy).symm.trans q2
  cases hnamed.symm.trans q3
  have hselP : selectMethod e.platform s.vm cellB.cls mk = .method mk := by rw [Launch.admits_selectMethod X.admits]; exact q4
  obtain ⟨vm₁, X₁, hstep₁⟩ := X.invokevirtual hexec hown hlink hnamed hmethM hstM hkP hkPi hy (a := b) (cell := cellB) hcell
    (fun z h => by rw [h] at hobj; cases hobj) hselP hmethM habM hkP hkPi (g := g) hg (argsL := argsL) (rest := rest) (hlen _ hsigM) hstack hdg
  rcases hK m meth c ⟨T.setVm vm₁, locs, cells, slots⟩ { g with stack := rest } (.invokevirtual index) mk (Value.ref b :: argsL).toArray X₁ hg hsize hdg hW (X₁.named hnamed) (hpre vm₁ X₁.warmed) with ⟨v, B, X', hpost, hsteps⟩ | ⟨q, B, X', hpost, hsteps⟩
  · exact Or.inl ⟨v, vm₁, B, X₁.warmed, X', hpost, fun target h => hstep₁ _ fun acts => by rw [doInvoke_state]; exact hsteps.trans h⟩
  · exact Or.inr ⟨q, vm₁, B, X₁.warmed, X', hpost, hstep₁ _ fun acts => by rw [doInvoke_state]; exact hsteps⟩
theorem vx_callS (X : Stand p l e R s m args below meth c T locs cells slots) (hexec : p.tables.exec = Jvm.exec) {own : String} {index : Nat} {y : MethodName} {bytes : ByteArray} {maxL : Nat} {ret : Option FieldType}
    (hown : s.vm.findClass own = some m.cls) (hlink : (Cond.methodLink own index y).before args s = true) (hstat : (Cond.static y).before args s = true) (hinit : (Cond.initialized y.cls).before args s = true)
    (hcode : (Cond.code y bytes maxL ret).before args s = true) (hy : y.cls ≠ "java/lang/invoke/MethodHandle" ∧ y.cls ≠ "java/lang/invoke/VarHandle")
    {W9 : Nat} {Pre : Pt → Array Value → Prop} {Post : Pt → Array Value → Option Value → Pt → Prop} {PostX : Pt → Array Value → Addr → Pt → Prop} (hK : vx_Back l R p e below s args y 3 W9 Pre Post PostX)
    {g : JFrame} (hg : g.method = m) (hsize : g.locals.size = c.maxLocals) {argsL rest : List Value} (hlen : ∀ sig, parseMethodDescriptor y.desc = some sig → argsL.length = sig.parameters.length)
    (hstack : g.stack = argsL.reverse ++ rest) (hW : 2 * g.monitorRoom + (rest.map fun v => v.category).sum ≤ W9) (hdg : decode c.code g.pc = .ok (.invokestatic index, 3))
    (hpre : ∀ vm₁, s.WarmedH vm₁ → Pre ⟨T.setVm vm₁, locs, cells, slots⟩ argsL.toArray) :
    (∃ (v : Option Value) (vm₁ : Vm) (B : Pt), s.WarmedH vm₁ ∧ Stand p l e R s m args below meth c B.U B.locs B.cells B.slots ∧ Post ⟨T.setVm vm₁, locs, cells, slots⟩ argsL.toArray v B ∧
      ∀ target, Steps p.tables e below (B.U.setTop { g with pc := g.pc + 3, stack := v.toList ++ rest }) target → Steps p.tables e below (T.setTop g) target) ∨
    (∃ (q : Addr) (vm₁ : Vm) (B : Pt), s.WarmedH vm₁ ∧ Stand p l e R s m args below meth c B.U B.locs B.cells B.slots ∧ PostX ⟨T.setVm vm₁, locs, cells, slots⟩ argsL.toArray q B ∧
      Steps p.tables e below (T.setTop g) ((B.U.setTop { g with stack := rest }).pushFrame (.throwing q))) := by
  obtain ⟨mk, hnamed⟩ := Cond.code_named hcode
  obtain ⟨methM, cM, hmethM, -, -, -, -, -, -, hsigM⟩ := Cond.code_spec hnamed hcode
  have hstatic : methM.isStatic = true := Cond.static_spec hnamed hmethM hstat
  obtain ⟨kP, hkP, -⟩ := className_of_methodNamed hnamed
  have hinitP : kP.init = .initialized := Cond.initialized_spec (findClass_of_methodNamed hnamed) hkP hinit
  obtain ⟨vm₁, X₁, hstep₁⟩ := X.invokestatic hexec hown hlink hnamed hmethM hstatic hkP hinitP hy (g := g) hg (argsL := argsL) (rest := rest) (hlen _ hsigM) hstack hdg
  rcases hK m meth c ⟨T.setVm vm₁, locs, cells, slots⟩ { g with stack := rest } (.invokestatic index) mk argsL.toArray X₁ hg hsize hdg hW (X₁.named hnamed) (hpre vm₁ X₁.warmed) with ⟨v, B, X', hpost, hsteps⟩ | ⟨q, B, X', hpost, hsteps⟩
  · exact Or.inl ⟨v, vm₁, B, X₁.warmed, X', hpost, fun target h => hstep₁ _ fun acts => by rw [doInvoke_state]; exact hsteps.trans h⟩
  · exact Or.inr ⟨q, vm₁, B, X₁.warmed, X', hpost, hstep₁ _ fun acts => by rw [doInvoke_state]; exact hsteps⟩
end Calls
theorem vx_cls {s : State} {T : State} {vm₁ : Vm} {E : String} {k : ClassId} (hW : s.WarmedH vm₁) (h : (T.setVm vm₁).vm.findClass E = some k) : s.vm.findClass E = some k := by
  have h1 : vm₁.findClass E = some k := h
  rw [hW.alike.findClass] at h1
  exact h1
/-- the method's frame g, with q thrown over it -/
def vx_W (p : Program) (l : Launch) (e : Env) (R : Room) (s : State) (m : MethodId) (args : Array Value) (below : List Frame) (meth : Method) (c : Code) (H : Heap) (locs : List Loc) (cells slots : Nat) (Q : State → Prop) (g : JFrame) (q : Addr) : Prop :=
  ∀ T : State, T.heap = H → Stand p l e R s m args below meth c T locs cells slots → ∃ t, Steps p.tables e below ((T.setTop g).pushFrame (.throwing q)) t ∧ Q t
def vx_Run (p : Program) (l : Launch) (e : Env) (R : Room) (s : State) (m : MethodId) (args : Array Value) (below : List Frame) (meth : Method) (c : Code) (H : Heap) (locs : List Loc) (cells slots mc ms : Nat) (g : JFrame) (rest : List Value) (Qa : State → Outcome → State → Prop) (XC : String → State → State → Prop) (free : Addr → Prop) : Prop :=
  ∀ T : State, T.heap = H → Stand p l e R s m args below meth c T locs cells slots →
    (∃ (v : Option Value) (st₀ t T' : State) (L : List Loc), st₀.heap = H ∧ Stand p l e R s m args below meth c T' (locs ++ L) (cells + mc) (slots + ms) ∧ (∀ q ∈ L, free q.base) ∧ T'.heap = t.heap ∧ T'.vm = t.vm ∧ Qa st₀ (.returned v) t ∧
      Goes p e below T g T' { g with pc := g.pc + 3, stack := v.toList ++ rest }) ∨
    (∃ (q : Addr) (st₀ t T' : State) (L : List Loc) (E : String) (ce : Cell), st₀.heap = H ∧ Stand p l e R s m args below meth c T' (locs ++ L) (cells + mc) (slots + ms) ∧ (∀ z ∈ L, free z.base) ∧ T'.heap = t.heap ∧ T'.vm = t.vm ∧ XC E st₀ t ∧ t.heap[q]? = some ce ∧ ce.vm = .none ∧ s.vm.findClass E = some ce.cls ∧
      Steps p.tables e below (T.setTop g) ((T'.setTop { g with stack := rest }).pushFrame (.throwing q)))
def vx_X {S : Type} (px : S → Prop) (B : String → S → State → Prop) (A : Nat → Prop) : String → State → State → Prop := fun E st t => ∃ u : S, px u ∧ B E u t ∧ va_F A st t
section Runs
variable {p : Program} {l : Launch} {e : Env} {R : Room} {s : State} {m : MethodId} {args : Array Value} {below : List Frame} {meth : Method} {c : Code} {H : Heap} {locs : List Loc} {cells slots : Nat}
variable {y : MethodName} {bytes cc : ByteArray} {maxL nL mc ms n index : Nat} {ret : Option FieldType} {ws : List Cond} {rm : Room} {Pc : Array Value → State → Prop} {Qc : Array Value → State → Outcome → State → Prop} {XC : String → State → State → Prop} {free : Addr → Prop} {Ts : List Cond} {own C : String} {b : Addr} {As rest : List Value} {g : JFrame}
theorem vx_callBack (cb : CallB R s args own index y bytes maxL ret ws rm mc ms n) (hM : vx_Met l y ws rm Pc Qc XC mc ms free) (hbl : FrameBlind Pc) : vx_Back l R p e below s args y 3 8 (PreOf R mc ms Pc) (PostOf Qc mc ms free) (vx_Post XC mc ms free) := by
  obtain ⟨hrc, hrs, hfr, hlo, hws, hcw, -, hini, -⟩ := cb
  exact vx_back (bytes := bytes) (maxL := maxL) (ret := ret) hM hbl hrc hrs hfr hlo hws hcw (fun a' U hW => word_at hW (Or.inl (by first | rfl | simp [Cond.onTables, Cond.keeps, Cond.steady])) hini)
theorem vx_runV (S : CallFix p m c cc nL s args Ts own) (hM : vx_Met l y ws rm Pc Qc XC mc ms free) (cw : CallW R s args own C index y bytes maxL ret ws rm mc ms n) (hp : PreV s H C b Pc As)
    (hg : g.method = m) (hn : As.length = n) (hsize : g.locals.size = nL) (hstack : g.stack = As.reverse ++ .ref b :: rest) (hW : 2 * g.monitorRoom + (rest.map fun v => v.category).sum ≤ 8) (hdg : decode cc g.pc = .ok (.invokevirtual index, 3)) (hf : cells + mc ≤ R.cells ∧ slots + ms ≤ R.slots) :
    vx_Run p l e R s m args below meth c H locs cells slots mc ms g rest (Qc (Value.ref b :: As).toArray) XC free := by
  have hK : vx_Back l R p e below s args y 3 8 (PreOf R mc ms Pc) (PostOf Qc mc ms free) (vx_Post XC mc ms free) := vx_callBack cw.1 hM hp.1
  obtain ⟨⟨-, -, -, -, -, -, hcode, -, hy, hlen, hl⟩, hin, hse⟩ := cw
  obtain ⟨hx, hb, hml, ho, -⟩ := S
  obtain ⟨-, ⟨cellB, hcB, hoB, hclB⟩, hPc⟩ := hp
  intro T hT X
  rcases vx_callV X hx (C := C) (bytes := bytes) (maxL := maxL) (ret := ret) ho hl hin hse hcode hy hK (by rw [hT]; exact hcB) hoB hclB hg (hsize.trans hml.symm) (argsL := As) (rest := rest) (fun sig h => hn.trans (hlen sig h)) hstack hW (by rw [hb]; exact hdg)
    (fun vm₁ hW₁ => ⟨hf.1, hf.2, hPc (T.setVm vm₁) hT hW₁⟩) with ⟨v, vm₁, ⟨U', l2, c2, s2⟩, hW₁, X', ⟨g', mk, t, L, e1, e2, hq, h1, hL, h2, h3⟩, st⟩ | ⟨q, vm₁, ⟨U', l2, c2, s2⟩, hW₁, X', ⟨g', mk, t, L, E, ce, e1, e2, hq, hce, hcv, hcl, h1, hL, h2, h3⟩, st⟩
  · dsimp only [Pt.U, Pt.locs, Pt.cells, Pt.slots] at X' e1 e2 h1 h2 h3 st
    subst h1; subst h2; subst h3
    exact Or.inl ⟨v, (T.setVm vm₁).calling g' mk (Value.ref b :: As).toArray, t, U', L, hT, X', hL, e1, e2, hq, st⟩
  · dsimp only [Pt.U, Pt.locs, Pt.cells, Pt.slots] at X' e1 e2 h1 h2 h3 st hcl
    subst h1; subst h2; subst h3
    exact Or.inr ⟨q, (T.setVm vm₁).calling g' mk (Value.ref b :: As).toArray, t, U', L, E, ce, hT, X', hL, e1, e2, hq, hce, hcv, vx_cls hW₁ hcl, st⟩
theorem vx_runS (S : CallFix p m c cc nL s args Ts own) (hM : vx_Met l y ws rm Pc Qc XC mc ms free) (cw : CallB R s args own index y bytes maxL ret ws rm mc ms n ∧ (Cond.static y).before args s = true) (hp : PreS s H Pc As)
    (hg : g.method = m) (hn : As.length = n) (hsize : g.locals.size = nL) (hstack : g.stack = As.reverse ++ rest) (hW : 2 * g.monitorRoom + (rest.map fun v => v.category).sum ≤ 8) (hdg : decode cc g.pc = .ok (.invokestatic index, 3)) (hf : cells + mc ≤ R.cells ∧ slots + ms ≤ R.slots) :
    vx_Run p l e R s m args below meth c H locs cells slots mc ms g rest (Qc As.toArray) XC free := by
  have hK : vx_Back l R p e below s args y 3 8 (PreOf R mc ms Pc) (PostOf Qc mc ms free) (vx_Post XC mc ms free) := vx_callBack cw.1 hM hp.1
  obtain ⟨⟨-, -, -, -, -, -, hcode, hini, hy, hlen, hl⟩, hstt⟩ := cw
  obtain ⟨hx, hb, hml, ho, -⟩ := S
  intro T hT X
  rcases vx_callS X hx (bytes := bytes) (maxL := maxL) (ret := ret) ho hl hstt hini hcode hy hK hg (hsize.trans hml.symm) (argsL := As) (rest := rest) (fun sig h => hn.trans (hlen sig h)) hstack hW (by rw [hb]; exact hdg)
    (fun vm₁ hW₁ => ⟨hf.1, hf.2, hp.2 (T.setVm vm₁) hT hW₁⟩) with ⟨v, vm₁, ⟨U', l2, c2, s2⟩, hW₁, X', ⟨g', mk, t, L, e1, e2, hq, h1, hL, h2, h3⟩, st⟩ | ⟨q, vm₁, ⟨U', l2, c2, s2⟩, hW₁, X', ⟨g', mk, t, L, E, ce, e1, e2, hq, hce, hcv, hcl, h1, hL, h2, h3⟩, st⟩
  · dsimp only [Pt.U, Pt.locs, Pt.cells, Pt.slots] at X' e1 e2 h1 h2 h3 st
    subst h1; subst h2; subst h3
    exact Or.inl ⟨v, (T.setVm vm₁).calling g' mk As.toArray, t, U', L, hT, X', hL, e1, e2, hq, st⟩
  · dsimp only [Pt.U, Pt.locs, Pt.cells, Pt.slots] at X' e1 e2 h1 h2 h3 st hcl
    subst h1; subst h2; subst h3
    exact Or.inr ⟨q, (T.setVm vm₁).calling g' mk As.toArray, t, U', L, E, ce, hT, X', hL, e1, e2, hq, hce, hcv, vx_cls hW₁ hcl, st⟩
end Runs
section Rows
variable {p : Program} {l : Launch} {e : Env} {R : Room} {s : State} {m : MethodId} {args : Array Value} {below : List Frame} {meth : Method} {c : Code} {H : Heap} {locs : List Loc} {cells slots : Nat} {Q : State → Prop}
variable {mc ms : Nat} {free : Addr → Prop} {A0 A1 : Nat → Prop} {H0 : Heap} {a : Array Value} {pc : Nat} {ls : Array Slot} {st0 rest : List Value}
theorem vx_keep {st₀ t T' : State} {L : List Loc} (h0 : st₀.heap = H) (e1 : T'.heap = t.heap) (hS : va_S A0 H0 H locs) (hA : ∀ q, q < H.size → A1 q → A0 q) (hf : ∀ q, free q → A0 q) (hL : ∀ q ∈ L, free q.base) (hF : va_F A1 st₀ t) :
    H.size ≤ T'.heap.size ∧ (∀ q : Nat, q < H.size → ¬ A1 q → T'.heap[q]? = H[q]?) ∧ va_S A0 H0 T'.heap (locs ++ L) := by
  obtain ⟨hz, hk⟩ := hF
  rw [h0] at hz hk
  exact ⟨by rw [e1]; exact hz, fun q h1 h2 => by rw [e1]; exact hk q h1 h2,
    ⟨Nat.le_trans hS.1 (by rw [e1]; exact hz), fun q h1 h2 => by rw [e1, hk q (Nat.lt_of_lt_of_le h1 hS.1) (fun z => h2 (hA q (Nat.lt_of_lt_of_le h1 hS.1) z))]; exact hS.2.1 q h1 h2, fun q hq => by
      rcases List.mem_append.mp hq with h | h
      · exact hS.2.2 q h
      · exact hf _ (hL q h)⟩⟩
theorem vx_calli {S SX : Type} {post : Int32 → S → Prop} {px : SX → Prop} {B : S → State → Prop} {BX : String → SX → State → Prop} {AX : Nat → Prop} (hr : vx_Run p l e R s m args below meth c H locs cells slots mc ms (F0 m pc ls st0) rest (va_Qi post B A1 a) (vx_X px BX AX) free) (hS : va_S A0 H0 H locs) (hA : ∀ q, q < H.size → A1 q → A0 q) (hf : ∀ q, free q → A0 q) (hAX : ∀ q, q < H.size → AX q → A0 q)
    (kx : ∀ (E : String) (ce : Cell) (q9 : Addr) (u : SX) (t : State) (H1 : Heap) (locs1 : List Loc), t.heap = H1 → s.vm.Alike t.vm → px u → BX E u t → H.size ≤ H1.size → (∀ q : Nat, q < H.size → ¬ AX q → H1[q]? = H[q]?) → va_S A0 H0 H1 locs1 → H1[q9]? = some ce → ce.vm = .none → s.vm.findClass E = some ce.cls → vx_W p l e R s m args below meth c H1 locs1 (cells + mc) (slots + ms) Q (F0 m pc ls rest) q9)
    (kk : ∀ (r : Int32) (u : S) (t : State) (H1 : Heap) (locs1 : List Loc), t.heap = H1 → s.vm.Alike t.vm → post r u → B u t → H.size ≤ H1.size → (∀ q : Nat, q < H.size → ¬ A1 q → H1[q]? = H[q]?) → va_S A0 H0 H1 locs1 → W p l e R s m args below meth c H1 locs1 (cells + mc) (slots + ms) Q (F0 m (pc + 3) ls (.int r :: rest))) : W p l e R s m args below meth c H locs cells slots Q (F0 m pc ls st0) := by
  intro T hT X
  rcases hr T hT X with ⟨v, st₀, t, T', L, h0, X', hL, e1, e2, ⟨⟨r, u, hv, hp, hb⟩, hF⟩, st⟩ | ⟨q, st₀, t, T', L, E, ce, h0, X', hL, e1, e2, ⟨u, hp, hb, hF⟩, hce, hcv, hcl, st⟩
  · cases hv
    obtain ⟨k1, k2, k3⟩ := vx_keep h0 e1 hS hA hf hL hF
    obtain ⟨t2, a1, b1⟩ := kk r u t T'.heap (locs ++ L) e1.symm (by rw [← e2]; exact X'.warmed.alike) hp hb k1 k2 k3 T' rfl X'
    exact ⟨t2, st t2 a1, b1⟩
  · obtain ⟨k1, k2, k3⟩ := vx_keep h0 e1 hS hAX hf hL hF
    obtain ⟨t2, a1, b1⟩ := kx E ce q u t T'.heap (locs ++ L) e1.symm (by rw [← e2]; exact X'.warmed.alike) hp hb k1 k2 k3 (by rw [e1]; exact hce) hcv hcl T' rfl X'
    exact ⟨t2, st.trans a1, b1⟩
theorem vx_calll {S SX : Type} {post : Int64 → S → Prop} {px : SX → Prop} {B : S → State → Prop} {BX : String → SX → State → Prop} {AX : Nat → Prop} (hr : vx_Run p l e R s m args below meth c H locs cells slots mc ms (F0 m pc ls st0) rest (va_Ql post B A1 a) (vx_X px BX AX) free) (hS : va_S A0 H0 H locs) (hA : ∀ q, q < H.size → A1 q → A0 q) (hf : ∀ q, free q → A0 q) (hAX : ∀ q, q < H.size → AX q → A0 q)
    (kx : ∀ (E : String) (ce : Cell) (q9 : Addr) (u : SX) (t : State) (H1 : Heap) (locs1 : List Loc), t.heap = H1 → s.vm.Alike t.vm → px u → BX E u t → H.size ≤ H1.size → (∀ q : Nat, q < H.size → ¬ AX q → H1[q]? = H[q]?) → va_S A0 H0 H1 locs1 → H1[q9]? = some ce → ce.vm = .none → s.vm.findClass E = some ce.cls → vx_W p l e R s m args below meth c H1 locs1 (cells + mc) (slots + ms) Q (F0 m pc ls rest) q9)
    (kk : ∀ (r : Int64) (u : S) (t : State) (H1 : Heap) (locs1 : List Loc), t.heap = H1 → s.vm.Alike t.vm → post r u → B u t → H.size ≤ H1.size → (∀ q : Nat, q < H.size → ¬ A1 q → H1[q]? = H[q]?) → va_S A0 H0 H1 locs1 → W p l e R s m args below meth c H1 locs1 (cells + mc) (slots + ms) Q (F0 m (pc + 3) ls (.long r :: rest))) : W p l e R s m args below meth c H locs cells slots Q (F0 m pc ls st0) := by
  intro T hT X
  rcases hr T hT X with ⟨v, st₀, t, T', L, h0, X', hL, e1, e2, ⟨⟨r, u, hv, hp, hb⟩, hF⟩, st⟩ | ⟨q, st₀, t, T', L, E, ce, h0, X', hL, e1, e2, ⟨u, hp, hb, hF⟩, hce, hcv, hcl, st⟩
  · cases hv
    obtain ⟨k1, k2, k3⟩ := vx_keep h0 e1 hS hA hf hL hF
    obtain ⟨t2, a1, b1⟩ := kk r u t T'.heap (locs ++ L) e1.symm (by rw [← e2]; exact X'.warmed.alike) hp hb k1 k2 k3 T' rfl X'
    exact ⟨t2, st t2 a1, b1⟩
  · obtain ⟨k1, k2, k3⟩ := vx_keep h0 e1 hS hAX hf hL hF
    obtain ⟨t2, a1, b1⟩ := kx E ce q u t T'.heap (locs ++ L) e1.symm (by rw [← e2]; exact X'.warmed.alike) hp hb k1 k2 k3 (by rw [e1]; exact hce) hcv hcl T' rfl X'
    exact ⟨t2, st.trans a1, b1⟩
theorem vx_callf {S SX : Type} {post : UInt32 → S → Prop} {px : SX → Prop} {B : S → State → Prop} {BX : String → SX → State → Prop} {AX : Nat → Prop} (hr : vx_Run p l e R s m args below meth c H locs cells slots mc ms (F0 m pc ls st0) rest (va_Qf post B A1 a) (vx_X px BX AX) free) (hS : va_S A0 H0 H locs) (hA : ∀ q, q < H.size → A1 q → A0 q) (hf : ∀ q, free q → A0 q) (hAX : ∀ q, q < H.size → AX q → A0 q)
    (kx : ∀ (E : String) (ce : Cell) (q9 : Addr) (u : SX) (t : State) (H1 : Heap) (locs1 : List Loc), t.heap = H1 → s.vm.Alike t.vm → px u → BX E u t → H.size ≤ H1.size → (∀ q : Nat, q < H.size → ¬ AX q → H1[q]? = H[q]?) → va_S A0 H0 H1 locs1 → H1[q9]? = some ce → ce.vm = .none → s.vm.findClass E = some ce.cls → vx_W p l e R s m args below meth c H1 locs1 (cells + mc) (slots + ms) Q (F0 m pc ls rest) q9)
    (kk : ∀ (r : UInt32) (u : S) (t : State) (H1 : Heap) (locs1 : List Loc), t.heap = H1 → s.vm.Alike t.vm → post r u → B u t → H.size ≤ H1.size → (∀ q : Nat, q < H.size → ¬ A1 q → H1[q]? = H[q]?) → va_S A0 H0 H1 locs1 → W p l e R s m args below meth c H1 locs1 (cells + mc) (slots + ms) Q (F0 m (pc + 3) ls (.float r :: rest))) : W p l e R s m args below meth c H locs cells slots Q (F0 m pc ls st0) := by
  intro T hT X
  rcases hr T hT X with ⟨v, st₀, t, T', L, h0, X', hL, e1, e2, ⟨⟨r, u, hv, hp, hb⟩, hF⟩, st⟩ | ⟨q, st₀, t, T', L, E, ce, h0, X', hL, e1, e2, ⟨u, hp, hb, hF⟩, hce, hcv, hcl, st⟩
  · cases hv
    obtain ⟨k1, k2, k3⟩ := vx_keep h0 e1 hS hA hf hL hF
    obtain ⟨t2, a1, b1⟩ := kk r u t T'.heap (locs ++ L) e1.symm (by rw [← e2]; exact X'.warmed.alike) hp hb k1 k2 k3 T' rfl X'
    exact ⟨t2, st t2 a1, b1⟩
  · obtain ⟨k1, k2, k3⟩ := vx_keep h0 e1 hS hAX hf hL hF
    obtain ⟨t2, a1, b1⟩ := kx E ce q u t T'.heap (locs ++ L) e1.symm (by rw [← e2]; exact X'.warmed.alike) hp hb k1 k2 k3 (by rw [e1]; exact hce) hcv hcl T' rfl X'
    exact ⟨t2, st.trans a1, b1⟩
theorem vx_calld {S SX : Type} {post : UInt64 → S → Prop} {px : SX → Prop} {B : S → State → Prop} {BX : String → SX → State → Prop} {AX : Nat → Prop} (hr : vx_Run p l e R s m args below meth c H locs cells slots mc ms (F0 m pc ls st0) rest (va_Qd post B A1 a) (vx_X px BX AX) free) (hS : va_S A0 H0 H locs) (hA : ∀ q, q < H.size → A1 q → A0 q) (hf : ∀ q, free q → A0 q) (hAX : ∀ q, q < H.size → AX q → A0 q)
    (kx : ∀ (E : String) (ce : Cell) (q9 : Addr) (u : SX) (t : State) (H1 : Heap) (locs1 : List Loc), t.heap = H1 → s.vm.Alike t.vm → px u → BX E u t → H.size ≤ H1.size → (∀ q : Nat, q < H.size → ¬ AX q → H1[q]? = H[q]?) → va_S A0 H0 H1 locs1 → H1[q9]? = some ce → ce.vm = .none → s.vm.findClass E = some ce.cls → vx_W p l e R s m args below meth c H1 locs1 (cells + mc) (slots + ms) Q (F0 m pc ls rest) q9)
    (kk : ∀ (r : UInt64) (u : S) (t : State) (H1 : Heap) (locs1 : List Loc), t.heap = H1 → s.vm.Alike t.vm → post r u → B u t → H.size ≤ H1.size → (∀ q : Nat, q < H.size → ¬ A1 q → H1[q]? = H[q]?) → va_S A0 H0 H1 locs1 → W p l e R s m args below meth c H1 locs1 (cells + mc) (slots + ms) Q (F0 m (pc + 3) ls (.double r :: rest))) : W p l e R s m args below meth c H locs cells slots Q (F0 m pc ls st0) := by
  intro T hT X
  rcases hr T hT X with ⟨v, st₀, t, T', L, h0, X', hL, e1, e2, ⟨⟨r, u, hv, hp, hb⟩, hF⟩, st⟩ | ⟨q, st₀, t, T', L, E, ce, h0, X', hL, e1, e2, ⟨u, hp, hb, hF⟩, hce, hcv, hcl, st⟩
  · cases hv
    obtain ⟨k1, k2, k3⟩ := vx_keep h0 e1 hS hA hf hL hF
    obtain ⟨t2, a1, b1⟩ := kk r u t T'.heap (locs ++ L) e1.symm (by rw [← e2]; exact X'.warmed.alike) hp hb k1 k2 k3 T' rfl X'
    exact ⟨t2, st t2 a1, b1⟩
  · obtain ⟨k1, k2, k3⟩ := vx_keep h0 e1 hS hAX hf hL hF
    obtain ⟨t2, a1, b1⟩ := kx E ce q u t T'.heap (locs ++ L) e1.symm (by rw [← e2]; exact X'.warmed.alike) hp hb k1 k2 k3 (by rw [e1]; exact hce) hcv hcl T' rfl X'
    exact ⟨t2, st.trans a1, b1⟩
theorem vx_callv {S SX : Type} {post : S → Prop} {px : SX → Prop} {B : S → State → Prop} {BX : String → SX → State → Prop} {AX : Nat → Prop} (hr : vx_Run p l e R s m args below meth c H locs cells slots mc ms (F0 m pc ls st0) rest (va_Qv post B A1 a) (vx_X px BX AX) free) (hS : va_S A0 H0 H locs) (hA : ∀ q, q < H.size → A1 q → A0 q) (hf : ∀ q, free q → A0 q) (hAX : ∀ q, q < H.size → AX q → A0 q)
    (kx : ∀ (E : String) (ce : Cell) (q9 : Addr) (u : SX) (t : State) (H1 : Heap) (locs1 : List Loc), t.heap = H1 → s.vm.Alike t.vm → px u → BX E u t → H.size ≤ H1.size → (∀ q : Nat, q < H.size → ¬ AX q → H1[q]? = H[q]?) → va_S A0 H0 H1 locs1 → H1[q9]? = some ce → ce.vm = .none → s.vm.findClass E = some ce.cls → vx_W p l e R s m args below meth c H1 locs1 (cells + mc) (slots + ms) Q (F0 m pc ls rest) q9)
    (kk : ∀ (u : S) (t : State) (H1 : Heap) (locs1 : List Loc), t.heap = H1 → s.vm.Alike t.vm → post u → B u t → H.size ≤ H1.size → (∀ q : Nat, q < H.size → ¬ A1 q → H1[q]? = H[q]?) → va_S A0 H0 H1 locs1 → W p l e R s m args below meth c H1 locs1 (cells + mc) (slots + ms) Q (F0 m (pc + 3) ls (rest))) : W p l e R s m args below meth c H locs cells slots Q (F0 m pc ls st0) := by
  intro T hT X
  rcases hr T hT X with ⟨v, st₀, t, T', L, h0, X', hL, e1, e2, ⟨⟨u, hv, hp, hb⟩, hF⟩, st⟩ | ⟨q, st₀, t, T', L, E, ce, h0, X', hL, e1, e2, ⟨u, hp, hb, hF⟩, hce, hcv, hcl, st⟩
  · cases hv
    obtain ⟨k1, k2, k3⟩ := vx_keep h0 e1 hS hA hf hL hF
    obtain ⟨t2, a1, b1⟩ := kk u t T'.heap (locs ++ L) e1.symm (by rw [← e2]; exact X'.warmed.alike) hp hb k1 k2 k3 T' rfl X'
    exact ⟨t2, st t2 a1, b1⟩
  · obtain ⟨k1, k2, k3⟩ := vx_keep h0 e1 hS hAX hf hL hF
    obtain ⟨t2, a1, b1⟩ := kx E ce q u t T'.heap (locs ++ L) e1.symm (by rw [← e2]; exact X'.warmed.alike) hp hb k1 k2 k3 (by rw [e1]; exact hce) hcv hcl T' rfl X'
    exact ⟨t2, st.trans a1, b1⟩
/-- caught by the row x of this method's table; the rows ahead don't take it -/
theorem vx_catch {own name : String} {E : String} {ce : Cell} {q : Addr} (hown : s.vm.findClass own = some m.cls) (pre : List ExceptionTableEntry) (x : ExceptionTableEntry) (suf : List ExceptionTableEntry) (hsplit : c.exceptionTable.toList = pre ++ x :: suf)
    (hpass : ∀ z ∈ pre, covers z pc = false ∨ (z.catchType ≠ 0 ∧ ∃ nm : String, (Cond.classLink own z.catchType nm).before args s = true ∧ va_Nc E nm s)) (hx : covers x pc = true) (h0 : x.catchType ≠ 0)
    (hlink : (Cond.classLink own x.catchType name).before args s = true) (hcast : (Cond.castable E name).before args s = true) (hcell : H[q]? = some ce) (hv : ce.vm = .none) (hcl : s.vm.findClass E = some ce.cls)
    (kk : W p l e R s m args below meth c H locs cells slots Q (F0 m x.handlerPc ls [.ref q])) : vx_W p l e R s m args below meth c H locs cells slots Q (F0 m pc ls rest) q := by
  intro T hT X
  have hpl : e.platform.magicAccessors = ({} : Platform).magicAccessors := by rw [X.admits.platform]
  obtain ⟨c3, c4, hc3, hc4, hasg⟩ := Cond.castable_spec hcast
  cases Option.some.inj (hc3.symm.trans hcl)
  obtain ⟨c5, hc5, hcl5⟩ := Cond.classLink_spec hown hlink e.platform hpl
  cases Option.some.inj (hc4.symm.trans hc5)
  obtain ⟨vm', X', st⟩ := X.thenCaughtThrough q (g := F0 m pc ls rest) rfl (Steps.refl _) (by rw [hT]; exact hcell) (by rw [hv]; rfl) (by obtain ⟨k9, h9, -⟩ := Vm.findClass_spec hcl; exact ⟨k9, h9⟩) pre x suf hsplit
    (fun z hz => by
      rcases hpass z hz with h | ⟨hz0, nm, hl1, hn1⟩
      · exact Or.inl h
      · obtain ⟨c6, hc6, hcl6⟩ := Cond.classLink_spec hown hl1 e.platform hpl
        obtain ⟨a8, b8, h1, h2, h3⟩ := hn1
        cases Option.some.inj (h1.symm.trans hcl)
        cases Option.some.inj (h2.symm.trans hc6)
        exact Or.inr ⟨hz0, _, hcl6, h3⟩) hx (Or.inr ⟨h0, c4, hcl5, hasg⟩)
  obtain ⟨t, a1, b1⟩ := kk (T.setVm vm') hT X'
  exact ⟨t, st.trans a1, b1⟩
end Rows
section Ends
variable {p : Program} {l : Launch} {e : Env} {R : Room} {s : State} {m : MethodId} {args : Array Value} {below : List Frame} {meth : Method} {c : Code} {H : Heap} {locs : List Loc} {cells slots : Nat} {Q : State → Prop}
variable {mc ms : Nat} {free : Addr → Prop} {A0 A1 : Nat → Prop} {H0 : Heap} {a : Array Value} {ls : Array Slot} {st0 rest : List Value}
variable {Qc : Array Value → State → Outcome → State → Prop} {XC : String → State → State → Prop}
/-- what a body that may throw owes at its end -/
def vx_MQ (below : List Frame) (Qc : Array Value → State → Outcome → State → Prop) (XC : String → State → State → Prop) (a : Array Value) (s : State) (mc ms : Nat) (free : Addr → Prop) : State → Prop := fun t =>
  ∃ o, t.status = .running ∧ Ended t below o ∧ vx_Q Qc XC mc ms free a s o t
theorem vx_ret {g : JFrame} {mc ms : Nat} (k : W p l e R s m args below meth c H locs cells slots (MQ below Qc args s mc ms free) g) : W p l e R s m args below meth c H locs cells slots (vx_MQ below Qc XC args s mc ms free) g := by
  intro T hT X
  obtain ⟨t, a1, o, b1, b2, b3, b4⟩ := k T hT X
  exact ⟨t, a1, o, b1, b2, Or.inl ⟨b3, b4⟩⟩
/-- not caught here: it goes on to the caller -/
theorem vx_widen {g : JFrame} {q : Addr} {k n : Nat} (h1 : cells ≤ k) (h2 : slots ≤ n) (kk : vx_W p l e R s m args below meth c H locs k n Q g q) : vx_W p l e R s m args below meth c H locs cells slots Q g q := fun T hT X => kk T hT (stand_widen X h1 h2)
theorem vx_out {pc : Nat} {E : String} {ce : Cell} {q : Addr} {mc ms : Nat} (hout : ∀ x ∈ c.exceptionTable.toList, covers x pc = false) (hlocks : meth.locks = false) (hcell : H[q]? = some ce) (hv : ce.vm = .none) (hcl : s.vm.findClass E = some ce.cls)
    (hx : ∀ t : State, t.heap = H → s.vm.Alike t.vm → XC E s t) (hf : ∀ z ∈ locs, free z.base) (hc : cells ≤ mc) (hs : slots ≤ ms) :
    vx_W p l e R s m args below meth c H locs cells slots (vx_MQ below Qc XC args s mc ms free) (F0 m pc ls rest) q := by
  intro T hT X
  obtain ⟨st1, hrun, hend, hW, hsm⟩ := X.leaveThrown q (g := F0 m pc ls rest) rfl rfl rfl hout hlocks
  have hcell9 : (T.setFrames (.throwing q :: below)).heap[q]? = some ce := by
    show T.heap[q]? = some ce
    rw [hT]; exact hcell
  exact ⟨_, st1, .threw q, hrun, hend, Or.inr ⟨q, rfl, E, ce, locs, hx _ hT hW.alike, hcell9, hv, hcl, hW, hsm.mono hc hs, hf⟩⟩
theorem vx_frame {U : State} {k n : Nat} (h : s.sameButNew ({ U with vm := s.vm } : State) locs k n) : s.heap.size ≤ U.heap.size ∧ ∀ q : Nat, q < s.heap.size → (∀ z ∈ locs, z.base ≠ q) → U.heap[q]? = s.heap[q]? := by
  obtain ⟨-, h2, -, -, -, h6⟩ := h
  refine ⟨h2, fun q hq hz => ?_⟩
  obtain ⟨c9, e1, e2, e3, e4⟩ := h6 q _ (Array.getElem?_eq_getElem hq)
  have hs : c9.slots = (s.heap[q]).slots := Array.ext_getElem? fun i => e4 i fun hm => hz _ hm rfl
  have h9 : c9 = s.heap[q] := by
    rw [hs] at e2
    exact e2
  have e5 : U.heap[q]? = some c9 := e1
  rw [e5, h9, Array.getElem?_eq_getElem hq]
/-- the words of a throw but the four that speak of the heap -/
def vx_no (w : Cond) : Bool := decide (w ≠ .isRef (.static Bundle.tN "UNASSIGNED_STACK" Bundle.steD)) && decide (w ≠ .isRef (.static Bundle.tN "SUPPRESSED_SENTINEL" Bundle.listD)) && decide (w ≠ .laysStatic Bundle.tN "UNASSIGNED_STACK" Bundle.steD) && decide (w ≠ .laysStatic Bundle.tN "SUPPRESSED_SENTINEL" Bundle.listD)
def vx_at0 (own : String) (ic : Nat) (X : String) (names : List String) : List Cond := (Bundle.ownAtoms0 own ic X names).filter vx_no
def vx_atS (own : String) (ic : Nat) (X : String) (names : List String) : List Cond := (Bundle.ownAtoms own ic X names).filter vx_no
/-- a word that the tables alone decide, or a good one -/
def vx_ot (w : Cond) : Bool := w.onTables || goodWord w
theorem vx_ot_at {args a' : Array Value} {s U : State} {w : Cond} (hW : s.WarmedH U.vm) (hvm : s.vm = U.vm) (hg : vx_ot w = true) (h : w.before args s = true) : w.before a' U = true := by
  simp only [vx_ot, Bool.or_eq_true] at hg
  rcases hg with hg | hg
  · exact va_tabs hg hvm h
  · exact word_at hW (good_of_word hg) h
/-- a list's words: the good ones out of the method's own list, the others by premises of their own -/
theorem vx_hat {args : Array Value} {s : State} {L B : List Cond} (h1 : ∀ w ∈ L.filter goodWord, w.before args s = true) (h2 : ∀ w ∈ L.filter (fun w => !goodWord w), w ∈ B) (h3 : ∀ w ∈ B, w.before args s = true) : ∀ w ∈ L, w.before args s = true := by
  intro w hw
  by_cases g : goodWord w = true
  · exact h1 w (List.mem_filter.mpr ⟨hw, g⟩)
  · refine h3 w (h2 w (List.mem_filter.mpr ⟨hw, ?_⟩))
    show (!goodWord w) = true
    cases hgw : goodWord w
    · rfl
    · exact absurd hgw g
theorem vx_c {args : Array Value} {s : State} {w : Cond} {B : List Cond} (h : w.before args s = true) (t : ∀ w ∈ B, w.before args s = true) : ∀ w' ∈ w :: B, w'.before args s = true := fun w' h' => (List.mem_cons.mp h').elim (fun e => by rw [e]; exact h) (t w')
theorem vx_n {args : Array Value} {s : State} : ∀ w ∈ ([] : List Cond), w.before args s = true := fun _ h => nomatch h
theorem vx_own {args : Array Value} {s : State} {L : List Cond} (h1 : ∀ w ∈ L.filter vx_no, w.before args s = true)
    (hU : (Cond.isRef (.static Bundle.tN "UNASSIGNED_STACK" Bundle.steD)).before args s = true) (hN : (Cond.isRef (.static Bundle.tN "SUPPRESSED_SENTINEL" Bundle.listD)).before args s = true)
    (lU : (Cond.laysStatic Bundle.tN "UNASSIGNED_STACK" Bundle.steD).before args s = true) (lN : (Cond.laysStatic Bundle.tN "SUPPRESSED_SENTINEL" Bundle.listD).before args s = true) : ∀ w ∈ L, w.before args s = true := by
  intro w hw
  by_cases e1 : w = .isRef (.static Bundle.tN "UNASSIGNED_STACK" Bundle.steD)
  · rw [e1]; exact hU
  · by_cases e2 : w = .isRef (.static Bundle.tN "SUPPRESSED_SENTINEL" Bundle.listD)
    · rw [e2]; exact hN
    · by_cases e3 : w = .laysStatic Bundle.tN "UNASSIGNED_STACK" Bundle.steD
      · rw [e3]; exact lU
      · by_cases e4 : w = .laysStatic Bundle.tN "SUPPRESSED_SENTINEL" Bundle.listD
        · rw [e4]; exact lN
        · exact h1 w (List.mem_filter.mpr ⟨hw, by unfold vx_no; rw [decide_eq_true e1, decide_eq_true e2, decide_eq_true e3, decide_eq_true e4]; rfl⟩)
/-- where a static field lies, its class's statics cell in H -/
def vx_L (C n d : String) (A : Nat → Prop) (U : State) (H : Heap) : Prop := ∃ (c : ClassId) (k : Class) (i : Nat) (f : Field) (a : Nat) (cell : Cell), U.vm.findClass C = some c ∧ U.fieldFound? C n d = some (c, k, i, f) ∧ f.isStatic = true ∧ k.statics = some a ∧ H[a]? = some cell ∧ cell.vm.isStatics = true ∧ cell.cls = c ∧ f.slot < cell.slots.size ∧ k.staticTypes[f.slot]? = some f.type ∧ ¬ A a
theorem vx_L.moved {C n d : String} {A : Nat → Prop} {u U : State} {H : Heap} (hvm : u.vm.Alike U.vm) (h : vx_L C n d A u H) : vx_L C n d A U H := by
  obtain ⟨c, k, i, f, a, cell, h1, h2, h3, h4, h5, h6, h7, h8, h9, h10⟩ := h
  obtain ⟨k', hi', he⟩ := State.fieldFound?_setVm hvm h2
  exact ⟨c, k', i, f, a, cell, by rw [hvm.findClass]; exact h1, hi', h3, by rw [he]; exact h4, h5, h6, h7, h8, by rw [he]; exact h9, h10⟩
theorem vx_L.kept {C n d : String} {A : Nat → Prop} {U : State} {H H1 : Heap} (h : vx_L C n d A U H) (hq : ∀ a : Nat, a < H.size → ¬ A a → H1[a]? = H[a]?) : vx_L C n d A U H1 := by
  obtain ⟨c, k, i, f, a, cell, h1, h2, h3, h4, h5, h6, h7, h8, h9, h10⟩ := h
  exact ⟨c, k, i, f, a, cell, h1, h2, h3, h4, by rw [hq a (Array.getElem?_eq_some_iff.mp h5).1 h10]; exact h5, h6, h7, h8, h9, h10⟩
theorem vx_L.narrow {C n d : String} {A B : Nat → Prop} {U : State} {H : Heap} (h : vx_L C n d A U H) (hAB : ∀ q, B q → A q) : vx_L C n d B U H := by
  obtain ⟨c, k, i, f, a, cell, h1, h2, h3, h4, h5, h6, h7, h8, h9, h10⟩ := h
  exact ⟨c, k, i, f, a, cell, h1, h2, h3, h4, h5, h6, h7, h8, h9, fun z => h10 (hAB _ z)⟩
theorem vx_L.word {C n d : String} {A : Nat → Prop} {s : State} {args : Array Value} (h : vx_L C n d A s s.heap) : (Cond.laysStatic C n d).before args s = true := by
  obtain ⟨c, k, i, f, a, cell, h1, h2, h3, h4, h5, h6, h7, h8, h9, -⟩ := h
  show (Cond.laysStatic C n d).holds args s none s [] = true
  exact Cond.laysStatic_of h1 h2 h3 h4 h5 h6 h7 h8 h9
/-- .. and what it holds: null or some reference -/
def vx_Zq (C n d : String) (A : Nat → Prop) (U : State) (H : Heap) : Prop := va_Zq C n d A U H ∧ vx_L C n d A U H
theorem vx_Zq.moved {C n d : String} {A : Nat → Prop} {u U : State} {H : Heap} (hvm : u.vm.Alike U.vm) (h : vx_Zq C n d A u H) : vx_Zq C n d A U H := ⟨va_Zq.moved hvm h.1, vx_L.moved hvm h.2⟩
theorem vx_Zq.kept {C n d : String} {A : Nat → Prop} {U : State} {H H1 : Heap} (h : vx_Zq C n d A U H) (hq : ∀ a : Nat, a < H.size → ¬ A a → H1[a]? = H[a]?) : vx_Zq C n d A U H1 := ⟨va_Zq.kept h.1 hq, vx_L.kept h.2 hq⟩
theorem vx_Zq.narrow {C n d : String} {A B : Nat → Prop} {U : State} {H : Heap} (h : vx_Zq C n d A U H) (hAB : ∀ q, B q → A q) : vx_Zq C n d B U H := ⟨va_Zq.narrow h.1 hAB, vx_L.narrow h.2 hAB⟩
theorem vx_Zqof {args : Array Value} {s : State} {C n d : String} {A : Nat → Prop} (hl : (Cond.laysStatic C n d).before args s = true) (hini : (Cond.initialized C).before args s = true) (h : (Cond.isRef (.static C n d)).before args s = true) (hA : ∀ a : Nat, a < s.heap.size → ¬ A a) : vx_Zq C n d A s s.heap := by
  refine ⟨va_Zqof hl hini h hA, ?_⟩
  obtain ⟨c, k, i, f, a, cell, h1, h2, h3, h4, h5, h6, h7, h8, h9⟩ := Cond.laysStatic_spec hl
  exact ⟨c, k, i, f, a, cell, h1, h2, h3, h4, h5, h6, h7, h8, h9, hA a (Array.getElem?_eq_some_iff.mp h5).1⟩
theorem vx_isRef {C n d : String} {v : Value} {A : Nat → Prop} {s : State} {args : Array Value} (h : va_Z C n d v A s s.heap) (hv : v.isRef = true) : (Cond.isRef (.static C n d)).before args s = true := by
  obtain ⟨cf, kf, fi, f, a, cell, h1, h2, h3, h4, h5, h6, h7, -⟩ := h
  have he : (Term.static C n d).eval args s none [] s = some v := by
    simp [Term.eval, State.fieldNamed?, h1, h2, h4, h5, h6, h7]
  simp only [Cond.before, Cond.holds, Cond.value, he]
  cases v <;> simp_all [Value.isRef]
theorem vx_isRefq {C n d : String} {A : Nat → Prop} {s : State} {args : Array Value} (h : va_Zq C n d A s s.heap) : (Cond.isRef (.static C n d)).before args s = true := by
  rcases h with h | ⟨t, h⟩
  · exact vx_isRef h rfl
  · exact vx_isRef h rfl
/-- the same frame, seen from here: as if the method were called anew in this heap -/
theorem vx_rebase {T : State} (X : Stand p l e R s m args below meth c T locs cells slots) {R' : Room} (hf : R'.frames ≤ R.frames) (hl : R'.locals ≤ R.locals) (hc : cells + R'.cells ≤ R.cells) (hs : slots + R'.slots ≤ R.slots) :
    Stand p l e R' ((T.setVm s.vm).setFrames (.invoking m args :: below)) m args below meth c T [] 0 0 := by
  have htop : (T.setVm s.vm).topJava?.isSome := X.here.top
  have hF : ((T.setVm s.vm).setFrames (.invoking m args :: below)).frames = .invoking m args :: below := State.frames_setFrames _ (State.cur_lt_of_top htop)
  obtain ⟨g₀, hg0⟩ := Option.isSome_iff_exists.mp htop
  obtain ⟨r, hr⟩ := State.topJava?_eq_some.mp hg0
  have hl9 : e.platform.stackLimits (T.setVm s.vm).me = e.platform.stackLimits s.me := X.limits
  have hb9 : (T.setVm s.vm).me.stackBytes = s.me.stackBytes := X.bytes
  refine ⟨X.admits, X.cas, X.clock, hF, ?_, X.hears, X.method, X.code, X.here, X.tail, X.warmed, ?_, ?_, ?_⟩
  · have h := X.room
    have hU : ((T.setVm s.vm).setFrames (.invoking m args :: below)).localsInUse = s.localsInUse := by
      rw [State.localsInUse_invoking hF (meth := meth) (c := c) X.method X.code, State.localsInUse_invoking X.frames X.method X.code]
    simp only [State.hasRoom, Bool.and_eq_true, decide_eq_true_eq] at h ⊢
    obtain ⟨⟨⟨⟨h1, h2, h3, h4, h5, h6⟩, h7⟩, h8⟩, h9⟩ := h
    rw [X.frames, List.length_cons] at h2 h3
    have q1 := X.heapSize
    have q2 := X.used
    simp only [hF, hU, List.length_cons, State.stackLimits_setFrames, State.stackBytes_setFrames, hl9, hb9]
    refine ⟨⟨⟨⟨by omega, by omega, by omega, by omega, by omega, h6⟩, ?_⟩, ?_⟩, X.book⟩
    · show T.heap.size + R'.cells ≤ e.platform.maxCells
      omega
    · show T.slotsUsed + R'.slots ≤ e.platform.maxSlots
      omega
  · rw [State.stackLimits_setFrames]; rfl
  · rw [State.stackBytes_setFrames]; rfl
  · refine ⟨?_, Nat.le_refl _, Nat.le_refl _, ?_, ?_, fun a c9 h9 => ⟨c9, h9, rfl, rfl, fun _ _ => rfl⟩⟩
    · obtain ⟨t, ht, -⟩ := State.frames_cons hr
      show T.setVm s.vm = { ((T.setVm s.vm).setFrames (.invoking m args :: below)).setFrames (T.setVm s.vm).frames with heap := T.heap, slotsUsed := T.slotsUsed }
      rw [State.setFrames_setFrames, State.setFrames_self ht]
      rfl
    · show T.slotsUsed = T.slotsUsed + ((T.heap.toList.drop T.heap.size).map (·.slots.size)).sum
      rw [List.drop_eq_nil_of_le (Nat.le_of_eq Array.length_toList)]
      rfl
    · show ((T.heap.toList.drop T.heap.size).map (·.slots.size)).sum ≤ 0
      rw [List.drop_eq_nil_of_le (Nat.le_of_eq Array.length_toList)]
      exact Nat.le_refl _
/-- 'throw new E()': new; dup; invokespecial; athrow -/
theorem vx_throw0 {cc : ByteArray} {pc : Nat} (hexec : p.tables.exec = Jvm.exec) (hb : c.code = cc) (hl : l.stackTraces = false) {own cls : String} {names : List String} {ik ic mc ms : Nat} {A : Nat → Prop}
    (hown : s.vm.findClass own = some m.cls) (hcls : Bundle.fit cls = true) (hnames : ∀ n ∈ names, Bundle.fit n = true)
    (hk : (Cond.classLink own ik cls).before args s = true) (hini : (Cond.initialized cls).before args s = true) (hat : ∀ w ∈ vx_at0 own ic cls names, w.before args s = true)
    (hgood : ∀ w ∈ Cond.classLink own ik cls :: Cond.initialized cls :: vx_at0 own ic cls names, vx_ot w = true)
    (hU : vx_Zq Bundle.tN "UNASSIGNED_STACK" Bundle.steD A s s.heap) (hN : vx_Zq Bundle.tN "SUPPRESSED_SENTINEL" Bundle.listD A s s.heap) (hS : va_S A s.heap H locs) (hsize : ls.size = c.maxLocals)
    (d0 : decode cc pc = .ok (.new ik, 3)) (d3 : decode cc (pc + 3) = .ok (.dup, 1)) (d4 : decode cc (pc + 4) = .ok (.invokespecial ic, 3)) (d7 : decode cc (pc + 7) = .ok (.athrow, 1))
    (hout : ∀ x ∈ c.exceptionTable.toList, covers x (pc + 7) = false)
    (hRframes : names.length + 3 < R.frames) (hRlocals : (rest.map fun v => v.category).sum + (13 * (names.length + 1) + 42) ≤ R.locals) (hRcells : cells + 1 ≤ R.cells) (hRslots : slots + 6 ≤ R.slots) (hlocks : meth.locks = false)
    (hx : ∀ t : State, s.vm.Alike t.vm → H.size ≤ t.heap.size → (∀ q : Nat, q < H.size → t.heap[q]? = H[q]?) → XC cls s t)
    (hf : ∀ z ∈ locs, free z.base) (hc : cells + 1 ≤ mc) (hs : slots + 6 ≤ ms) :
    W p l e R s m args below meth c H locs cells slots (vx_MQ below Qc XC args s mc ms free) (F0 m pc ls rest) := by
  intro T hT X
  have htr : e.platform.stackTraces = false := (show e.platform.stackTraces = l.stackTraces by rw [X.admits.platform]).trans hl
  have Y := vx_rebase X (R' := { frames := R.frames, locals := R.locals, cells := 1, slots := 6 }) (Nat.le_refl _) (Nat.le_refl _) hRcells hRslots
  obtain ⟨s', hA⟩ : ∃ z, z = (T.setVm s.vm).setFrames (.invoking m args :: below) := ⟨_, rfl⟩
  rw [← hA] at Y
  have hvm : s'.vm = s.vm := by rw [hA]; rfl
  have hhp : s'.heap = H := by rw [hA]; exact hT
  have hW0 : s.WarmedH s'.vm := by rw [hvm]; exact State.WarmedH.refl s
  have hat' : ∀ w ∈ vx_at0 own ic cls names, w.before args s' = true := fun w hw => vx_ot_at hW0 hvm.symm (hgood w (List.mem_cons_of_mem _ (List.mem_cons_of_mem _ hw))) (hat w hw)
  have hk' : (Cond.classLink own ik cls).before args s' = true := vx_ot_at hW0 hvm.symm (hgood _ List.mem_cons_self) hk
  have hini' : (Cond.initialized cls).before args s' = true := vx_ot_at hW0 hvm.symm (hgood _ (List.mem_cons_of_mem _ List.mem_cons_self)) hini
  have hU' : vx_Zq Bundle.tN "UNASSIGNED_STACK" Bundle.steD A s' s'.heap := by rw [hhp]; exact vx_Zq.moved hW0.alike (hU.kept hS.2.1)
  have hN' : vx_Zq Bundle.tN "SUPPRESSED_SENTINEL" Bundle.listD A s' s'.heap := by rw [hhp]; exact vx_Zq.moved hW0.alike (hN.kept hS.2.1)
  have h : ∀ w ∈ Bundle.ownAtoms0 own ic cls names, w.before args s' = true := vx_own hat' (vx_isRefq hU'.1) (vx_isRefq hN'.1) hU'.2.word hN'.2.word
  have hown' : s'.vm.findClass own = some m.cls := by rw [hvm]; exact hown
  have hins : (Cond.instantiable cls 6).before args s' = true := h _ (by simp [Bundle.ownAtoms0])
  obtain ⟨vm₁, cX, kX, hfX, hkX, -, -, X₁, st1⟩ := Y.newCold hexec (own := own) (C := cls) (index := ik) (n := 6) hown' hk' hins hini'
    (g := F0 m pc ls rest) rfl (by rw [hb]; exact d0) (Nat.le_refl _) (Nat.le_refl _)
  generalize hT1 : (T.setVm vm₁).pushCell { cls := cX, slots := kX.instanceTypes.map defaultValue, vm := .none } = T1 at X₁ st1
  have hcat : (Value.ref T.heap.size).category = 1 := rfl
  have hcellA : T1.heap[T.heap.size]? = some (freshCell cX kX) := by rw [← hT1]; exact State.heap_pushCell_size _ _
  have d3' : decode c.code (pc + 3) = .ok (.dup, 1) := by rw [hb]; exact d3
  obtain ⟨U, hsteps, hrun, hend, hW, hsame, ce, hce, hO⟩ := X₁.ctorThrow0 hexec htr (own := own) (cls := cls) (names := names) (ic := ic) hown' hcls hnames h (fun x hx => nomatch hx) hfX hkX hcellA (by rw [hhp, hT]; exact Nat.le_refl _)
    (g := { method := m, pc := pc + 4, locals := ls, stack := .ref T.heap.size :: .ref T.heap.size :: rest, locked := none }) rfl hsize rfl rfl (rest := rest) rfl
    (by rw [hb]; exact d4) (by rw [hb]; exact d7) hout hRframes (by simp only [List.map_cons, List.sum_cons, hcat]; omega) hlocks
  obtain ⟨f1, f2⟩ := vx_frame hsame
  rw [hhp] at f1 f2
  have hWs : s.WarmedH U.vm := State.WarmedH.trans hW0 hW
  have hcl : s.vm.findClass cls = some ce.cls := by
    have h9 := hO.cls
    rw [hvm] at h9
    exact h9
  have hall : s.sameButNew ({ U with vm := s.vm } : State) locs mc ms := by
    subst hA
    obtain ⟨e1, e2⟩ := hsame
    rw [State.setFrames_setFrames] at e1
    have h2 : (T.setVm s.vm).sameButNew ({ U with vm := s.vm } : State) [] (0 + 1) (0 + 6) := ⟨e1, e2⟩
    have h3 := X.same.trans h2
    rw [List.append_nil] at h3
    exact h3.mono hc hs
  refine ⟨U, ?_, .threw T.heap.size, hrun, hend, Or.inr ⟨T.heap.size, rfl, cls, ce, locs, hx U hWs.alike f1 (fun q hq => f2 q hq (fun z hz => nomatch hz)), hce, hO.vm, hcl, hWs, hall, hf⟩⟩
  refine st1 _ ?_
  show Steps p.tables e below (T1.setTop { method := m, pc := pc + 3, locals := ls, stack := .ref T.heap.size :: rest, locked := none }) _
  jvm_step X₁.here [X₁.here.top, hexec, d3', Value.category]
  exact hsteps
/-- 'throw new E("text")': new; dup; ldc; invokespecial; athrow -/
theorem vx_throwS {cc : ByteArray} {pc : Nat} (hexec : p.tables.exec = Jvm.exec) (hb : c.code = cc) (hl : l.stackTraces = false) {own cls text : String} {names : List String} {ik is ic mc ms sa : Nat} {A : Nat → Prop}
    (hown : s.vm.findClass own = some m.cls) (hcls : Bundle.fit cls = true) (hnames : ∀ n ∈ names, Bundle.fit n = true)
    (hk : (Cond.classLink own ik cls).before args s = true) (hini : (Cond.initialized cls).before args s = true) (hstr : vk_R own is text sa s) (hat : ∀ w ∈ vx_atS own ic cls names, w.before args s = true)
    (hgood : ∀ w ∈ Cond.classLink own ik cls :: Cond.initialized cls :: vx_atS own ic cls names, vx_ot w = true)
    (hU : vx_Zq Bundle.tN "UNASSIGNED_STACK" Bundle.steD A s s.heap) (hN : vx_Zq Bundle.tN "SUPPRESSED_SENTINEL" Bundle.listD A s s.heap) (hS : va_S A s.heap H locs) (hsize : ls.size = c.maxLocals)
    (d0 : decode cc pc = .ok (.new ik, 3)) (d3 : decode cc (pc + 3) = .ok (.dup, 1)) (d4 : decode cc (pc + 4) = .ok (.ldc is, 2)) (d6 : decode cc (pc + 6) = .ok (.invokespecial ic, 3)) (d9 : decode cc (pc + 9) = .ok (.athrow, 1))
    (hout : ∀ x ∈ c.exceptionTable.toList, covers x (pc + 9) = false)
    (hRframes : names.length + 3 < R.frames) (hRlocals : (rest.map fun v => v.category).sum + (13 * (names.length + 1) + 43) ≤ R.locals) (hRcells : cells + 1 ≤ R.cells) (hRslots : slots + 6 ≤ R.slots) (hlocks : meth.locks = false)
    (hx : ∀ t : State, s.vm.Alike t.vm → H.size ≤ t.heap.size → (∀ q : Nat, q < H.size → t.heap[q]? = H[q]?) → XC cls s t)
    (hf : ∀ z ∈ locs, free z.base) (hc : cells + 1 ≤ mc) (hs : slots + 6 ≤ ms) :
    W p l e R s m args below meth c H locs cells slots (vx_MQ below Qc XC args s mc ms free) (F0 m pc ls rest) := by
  intro T hT X
  have htr : e.platform.stackTraces = false := (show e.platform.stackTraces = l.stackTraces by rw [X.admits.platform]).trans hl
  have Y := vx_rebase X (R' := { frames := R.frames, locals := R.locals, cells := 1, slots := 6 }) (Nat.le_refl _) (Nat.le_refl _) hRcells hRslots
  obtain ⟨s', hA⟩ : ∃ z, z = (T.setVm s.vm).setFrames (.invoking m args :: below) := ⟨_, rfl⟩
  rw [← hA] at Y
  have hvm : s'.vm = s.vm := by rw [hA]; rfl
  have hhp : s'.heap = H := by rw [hA]; exact hT
  have hW0 : s.WarmedH s'.vm := by rw [hvm]; exact State.WarmedH.refl s
  have hat' : ∀ w ∈ vx_atS own ic cls names, w.before args s' = true := fun w hw => vx_ot_at hW0 hvm.symm (hgood w (List.mem_cons_of_mem _ (List.mem_cons_of_mem _ hw))) (hat w hw)
  have hk' : (Cond.classLink own ik cls).before args s' = true := vx_ot_at hW0 hvm.symm (hgood _ List.mem_cons_self) hk
  have hini' : (Cond.initialized cls).before args s' = true := vx_ot_at hW0 hvm.symm (hgood _ (List.mem_cons_of_mem _ List.mem_cons_self)) hini
  have hU' : vx_Zq Bundle.tN "UNASSIGNED_STACK" Bundle.steD A s' s'.heap := by rw [hhp]; exact vx_Zq.moved hW0.alike (hU.kept hS.2.1)
  have hN' : vx_Zq Bundle.tN "SUPPRESSED_SENTINEL" Bundle.listD A s' s'.heap := by rw [hhp]; exact vx_Zq.moved hW0.alike (hN.kept hS.2.1)
  have h : ∀ w ∈ Bundle.ownAtoms own ic cls names, w.before args s' = true := vx_own hat' (vx_isRefq hU'.1) (vx_isRefq hN'.1) hU'.2.word hN'.2.word
  have hown' : s'.vm.findClass own = some m.cls := by rw [hvm]; exact hown
  have hins : (Cond.instantiable cls 6).before args s' = true := h _ (by simp [Bundle.ownAtoms])
  obtain ⟨vm₁, cX, kX, hfX, hkX, -, -, X₁, st1⟩ := Y.newCold hexec (own := own) (C := cls) (index := ik) (n := 6) hown' hk' hins hini'
    (g := F0 m pc ls rest) rfl (by rw [hb]; exact d0) (Nat.le_refl _) (Nat.le_refl _)
  generalize hT1 : (T.setVm vm₁).pushCell { cls := cX, slots := kX.instanceTypes.map defaultValue, vm := .none } = T1 at X₁ st1
  have hcat : (Value.ref T.heap.size).category = 1 := rfl
  have hcellA : T1.heap[T.heap.size]? = some (freshCell cX kX) := by rw [← hT1]; exact State.heap_pushCell_size _ _
  have d3' : decode c.code (pc + 3) = .ok (.dup, 1) := by rw [hb]; exact d3
  have d4' : decode c.code (pc + 4) = .ok (.ldc is, 2) := by rw [hb]; exact d4
  have hstr' : vk_R own is text sa s' := vk_R.warm hW0 hstr
  obtain ⟨U, hsteps, hrun, hend, hW, hsame, ce, hce, hO⟩ := X₁.ctorThrowS hexec htr (own := own) (cls := cls) (names := names) (ic := ic) hown' hcls hnames h (fun x hx => nomatch hx) hfX hkX hcellA (by rw [hhp, hT]; exact Nat.le_refl _) (msg := .ref sa) rfl
    (g := { method := m, pc := pc + 6, locals := ls, stack := .ref sa :: .ref T.heap.size :: .ref T.heap.size :: rest, locked := none }) rfl hsize rfl rfl (rest := rest) rfl
    (by rw [hb]; exact d6) (by rw [hb]; exact d9) hout hRframes (by simp only [List.map_cons, List.sum_cons, hcat]; omega) hlocks
  obtain ⟨f1, f2⟩ := vx_frame hsame
  rw [hhp] at f1 f2
  have hWs : s.WarmedH U.vm := State.WarmedH.trans hW0 hW
  have hcl : s.vm.findClass cls = some ce.cls := by
    have h9 := hO.cls
    rw [hvm] at h9
    exact h9
  have hall : s.sameButNew ({ U with vm := s.vm } : State) locs mc ms := by
    subst hA
    obtain ⟨e1, e2⟩ := hsame
    rw [State.setFrames_setFrames] at e1
    have h2 : (T.setVm s.vm).sameButNew ({ U with vm := s.vm } : State) [] (0 + 1) (0 + 6) := ⟨e1, e2⟩
    have h3 := X.same.trans h2
    rw [List.append_nil] at h3
    exact h3.mono hc hs
  refine ⟨U, ?_, .threw T.heap.size, hrun, hend, Or.inr ⟨T.heap.size, rfl, cls, ce, locs, hx U hWs.alike f1 (fun q hq => f2 q hq (fun z hz => nomatch hz)), hce, hO.vm, hcl, hWs, hall, hf⟩⟩
  refine st1 _ ?_
  show Steps p.tables e below (T1.setTop { method := m, pc := pc + 3, locals := ls, stack := .ref T.heap.size :: rest, locked := none }) _
  jvm_step X₁.here [X₁.here.top, hexec, d3', Value.category]
  exact X₁.ldcString hexec (own := own) (text := text) (index := is) (a := sa) hown' hstr'.1 hstr'.2
    (g := { method := m, pc := pc + 4, locals := ls, stack := .ref T.heap.size :: .ref T.heap.size :: rest, locked := none }) rfl d4' _ hsteps
/-- 'throw new E("text")', the text by a wide index -/
theorem vx_throwSW {cc : ByteArray} {pc : Nat} (hexec : p.tables.exec = Jvm.exec) (hb : c.code = cc) (hl : l.stackTraces = false) {own cls text : String} {names : List String} {ik is ic mc ms sa : Nat} {A : Nat → Prop}
    (hown : s.vm.findClass own = some m.cls) (hcls : Bundle.fit cls = true) (hnames : ∀ n ∈ names, Bundle.fit n = true)
    (hk : (Cond.classLink own ik cls).before args s = true) (hini : (Cond.initialized cls).before args s = true) (hstr : vk_R own is text sa s) (hat : ∀ w ∈ vx_atS own ic cls names, w.before args s = true)
    (hgood : ∀ w ∈ Cond.classLink own ik cls :: Cond.initialized cls :: vx_atS own ic cls names, vx_ot w = true)
    (hU : vx_Zq Bundle.tN "UNASSIGNED_STACK" Bundle.steD A s s.heap) (hN : vx_Zq Bundle.tN "SUPPRESSED_SENTINEL" Bundle.listD A s s.heap) (hS : va_S A s.heap H locs) (hsize : ls.size = c.maxLocals)
    (d0 : decode cc pc = .ok (.new ik, 3)) (d3 : decode cc (pc + 3) = .ok (.dup, 1)) (d4 : decode cc (pc + 4) = .ok (.ldc_w is, 3)) (d7 : decode cc (pc + 7) = .ok (.invokespecial ic, 3)) (d10 : decode cc (pc + 10) = .ok (.athrow, 1))
    (hout : ∀ x ∈ c.exceptionTable.toList, covers x (pc + 10) = false)
    (hRframes : names.length + 3 < R.frames) (hRlocals : (rest.map fun v => v.category).sum + (13 * (names.length + 1) + 43) ≤ R.locals) (hRcells : cells + 1 ≤ R.cells) (hRslots : slots + 6 ≤ R.slots) (hlocks : meth.locks = false)
    (hx : ∀ t : State, s.vm.Alike t.vm → H.size ≤ t.heap.size → (∀ q : Nat, q < H.size → t.heap[q]? = H[q]?) → XC cls s t)
    (hf : ∀ z ∈ locs, free z.base) (hc : cells + 1 ≤ mc) (hs : slots + 6 ≤ ms) :
    W p l e R s m args below meth c H locs cells slots (vx_MQ below Qc XC args s mc ms free) (F0 m pc ls rest) := by
  intro T hT X
  have htr : e.platform.stackTraces = false := (show e.platform.stackTraces = l.stackTraces by rw [X.admits.platform]).trans hl
  have Y := vx_rebase X (R' := { frames := R.frames, locals := R.locals, cells := 1, slots := 6 }) (Nat.le_refl _) (Nat.le_refl _) hRcells hRslots
  obtain ⟨s', hA⟩ : ∃ z, z = (T.setVm s.vm).setFrames (.invoking m args :: below) := ⟨_, rfl⟩
  rw [← hA] at Y
  have hvm : s'.vm = s.vm := by rw [hA]; rfl
  have hhp : s'.heap = H := by rw [hA]; exact hT
  have hW0 : s.WarmedH s'.vm := by rw [hvm]; exact State.WarmedH.refl s
  have hat' : ∀ w ∈ vx_atS own ic cls names, w.before args s' = true := fun w hw => vx_ot_at hW0 hvm.symm (hgood w (List.mem_cons_of_mem _ (List.mem_cons_of_mem _ hw))) (hat w hw)
  have hk' : (Cond.classLink own ik cls).before args s' = true := vx_ot_at hW0 hvm.symm (hgood _ List.mem_cons_self) hk
  have hini' : (Cond.initialized cls).before args s' = true := vx_ot_at hW0 hvm.symm (hgood _ (List.mem_cons_of_mem _ List.mem_cons_self)) hini
  have hU' : vx_Zq Bundle.tN "UNASSIGNED_STACK" Bundle.steD A s' s'.heap := by rw [hhp]; exact vx_Zq.moved hW0.alike (hU.kept hS.2.1)
  have hN' : vx_Zq Bundle.tN "SUPPRESSED_SENTINEL" Bundle.listD A s' s'.heap := by rw [hhp]; exact vx_Zq.moved hW0.alike (hN.kept hS.2.1)
  have h : ∀ w ∈ Bundle.ownAtoms own ic cls names, w.before args s' = true := vx_own hat' (vx_isRefq hU'.1) (vx_isRefq hN'.1) hU'.2.word hN'.2.word
  have hown' : s'.vm.findClass own = some m.cls := by rw [hvm]; exact hown
  have hins : (Cond.instantiable cls 6).before args s' = true := h _ (by simp [Bundle.ownAtoms])
  obtain ⟨vm₁, cX, kX, hfX, hkX, -, -, X₁, st1⟩ := Y.newCold hexec (own := own) (C := cls) (index := ik) (n := 6) hown' hk' hins hini'
    (g := F0 m pc ls rest) rfl (by rw [hb]; exact d0) (Nat.le_refl _) (Nat.le_refl _)
  generalize hT1 : (T.setVm vm₁).pushCell { cls := cX, slots := kX.instanceTypes.map defaultValue, vm := .none } = T1 at X₁ st1
  have hcat : (Value.ref T.heap.size).category = 1 := rfl
  have hcellA : T1.heap[T.heap.size]? = some (freshCell cX kX) := by rw [← hT1]; exact State.heap_pushCell_size _ _
  have d3' : decode c.code (pc + 3) = .ok (.dup, 1) := by rw [hb]; exact d3
  have d4' : decode c.code (pc + 4) = .ok (.ldc_w is, 3) := by rw [hb]; exact d4
  have hstr' : vk_R own is text sa s' := vk_R.warm hW0 hstr
  obtain ⟨U, hsteps, hrun, hend, hW, hsame, ce, hce, hO⟩ := X₁.ctorThrowS hexec htr (own := own) (cls := cls) (names := names) (ic := ic) hown' hcls hnames h (fun x hx => nomatch hx) hfX hkX hcellA (by rw [hhp, hT]; exact Nat.le_refl _) (msg := .ref sa) rfl
    (g := { method := m, pc := pc + 7, locals := ls, stack := .ref sa :: .ref T.heap.size :: .ref T.heap.size :: rest, locked := none }) rfl hsize rfl rfl (rest := rest) rfl
    (by rw [hb]; exact d7) (by rw [hb]; exact d10) hout hRframes (by simp only [List.map_cons, List.sum_cons, hcat]; omega) hlocks
  obtain ⟨f1, f2⟩ := vx_frame hsame
  rw [hhp] at f1 f2
  have hWs : s.WarmedH U.vm := State.WarmedH.trans hW0 hW
  have hcl : s.vm.findClass cls = some ce.cls := by
    have h9 := hO.cls
    rw [hvm] at h9
    exact h9
  have hall : s.sameButNew ({ U with vm := s.vm } : State) locs mc ms := by
    subst hA
    obtain ⟨e1, e2⟩ := hsame
    rw [State.setFrames_setFrames] at e1
    have h2 : (T.setVm s.vm).sameButNew ({ U with vm := s.vm } : State) [] (0 + 1) (0 + 6) := ⟨e1, e2⟩
    have h3 := X.same.trans h2
    rw [List.append_nil] at h3
    exact h3.mono hc hs
  refine ⟨U, ?_, .threw T.heap.size, hrun, hend, Or.inr ⟨T.heap.size, rfl, cls, ce, locs, hx U hWs.alike f1 (fun q hq => f2 q hq (fun z hz => nomatch hz)), hce, hO.vm, hcl, hWs, hall, hf⟩⟩
  refine st1 _ ?_
  show Steps p.tables e below (T1.setTop { method := m, pc := pc + 3, locals := ls, stack := .ref T.heap.size :: rest, locked := none }) _
  jvm_step X₁.here [X₁.here.top, hexec, d3', Value.category]
  exact X₁.ldcStringW hexec (own := own) (text := text) (index := is) (a := sa) hown' hstr'.1 hstr'.2
    (g := { method := m, pc := pc + 4, locals := ls, stack := .ref T.heap.size :: .ref T.heap.size :: rest, locked := none }) rfl d4' _ hsteps
end Ends
section Bodies
variable {l : Launch}
theorem vx_ofW {y : MethodName} {ws ws' : List Cond} {rm : Room} {Pc : Array Value → State → Prop} {Qc : Array Value → State → Outcome → State → Prop} {XC : String → State → State → Prop} {mc ms : Nat} {free : Addr → Prop} {cc : ByteArray} {maxL : Nat} {ret : Option FieldType}
    (hy : plainName y.cls = true) (hw : ws = Cond.code y cc maxL ret :: ws')
    (body : ∀ p e s m args below meth c s₁, BodyLoose p l y (headSpec ws rm) cc maxL ret e s m args below meth c s₁ → c.maxLocals = maxL → (∀ x ∈ c.exceptionTable.toList, False) → Pc args s →
      W p l e (headSpec ws rm).room s m args below meth c s.heap [] 0 0 (vx_MQ below Qc XC args s mc ms free) (entryFrame m args maxL)) : vx_Met l y ws rm Pc Qc XC mc ms free := by
  refine MetFree.of_bodyS (code := cc) (maxLocals := maxL) (ret := ret) hy ?_ ?_
  · intro args s m h hn
    obtain ⟨meth, c, h1, h2, h3, h4, h5, h6, -, -⟩ := Cond.code_spec hn (atoms_spec (ws := ws) h _ (by rw [hw]; exact List.mem_cons_self))
    exact ⟨meth, c, h1, h2, h3, h4, h5, h6⟩
  · intro p e s m args below meth c s₁ B hml hP _
    have hh0 : s₁.heap = s.heap := by rw [B.state]; rfl
    have ht : ∀ x ∈ c.exceptionTable.toList, False := by
      obtain ⟨meth9, c9, h1, h2, -, -, -, -, h7, -⟩ := Cond.code_spec B.named (atoms_spec (ws := ws) B.pre _ (by rw [hw]; exact List.mem_cons_self))
      cases Option.some.inj (h1.symm.trans B.method)
      cases Option.some.inj (h2.symm.trans (Stand.of_body B).code)
      intro x hx
      rw [Array.isEmpty_iff.mp h7] at hx
      cases hx
    obtain ⟨t, a1, o, b1, b2, b3⟩ := body p e s m args below meth c s₁ B hml ht hP s₁ hh0 (Stand.of_body B)
    exact ⟨t, o, a1, b1, b2, b3⟩
/-- the table of a body with handlers -/
theorem vx_table {p : Program} {x y : MethodName} {S : Spec} {cc bytes : ByteArray} {maxL maxL' : Nat} {ret ret' : Option FieldType} {e : Env} {s s₁ : State} {m : MethodId} {args : Array Value} {below : List Frame} {meth : Method} {c : Code} {hh : List (Nat × Nat × Nat × Nat)}
    (B : BodyLoose p l y S cc maxL ret e s m args below meth c s₁) (h : (Cond.codeWith y bytes maxL' ret' hh).before args s = true) : c.exceptionTable.toList = tableOf hh := by
  obtain ⟨m9, meth9, c9, hn9, h1, h2, -, -, h6, -⟩ := Cond.codeWith_spec h
  cases Option.some.inj (hn9.symm.trans B.named)
  cases Option.some.inj (h1.symm.trans B.method)
  cases Option.some.inj (h2.symm.trans (Stand.of_body B).code)
  rw [← h6, table_eq]
end Bodies
end VXA
/-! ===== END ===== -/
/-! ===== BEGIN a static call of a method with an exception table ===== -/
section VXS
variable {p : Program} {l : Launch} {e : Env} {R : Room} {s : State} {m : MethodId} {args : Array Value} {below : List Frame} {meth : Method} {c : Code} {T : State} {H : Heap} {locs : List Loc} {cells slots : Nat}
abbrev vx_CSW (R : Room) (s : State) (args : Array Value) (own : String) (index : Nat) (y : MethodName) (bytes : ByteArray) (maxL : Nat) (ret : Option FieldType) (hh : List (Nat × Nat × Nat × Nat)) (ws : List Cond) (rm : Room) (mc ms n : Nat) : Prop :=
  (rm.cells = mc ∧ rm.slots = ms ∧ rm.frames + 1 ≤ R.frames ∧ 8 + (maxL + 11) + rm.locals ≤ R.locals ∧ (∀ w ∈ ws, ∀ (a' : Array Value) (U : State), s.WarmedH U.vm → w.before a' U = true) ∧ Cond.codeWith y bytes maxL ret hh ∈ ws) ∧
  (Cond.codeWith y bytes maxL ret hh).before args s = true ∧ (Cond.initialized y.cls).before args s = true ∧ (y.cls ≠ "java/lang/invoke/MethodHandle" ∧ y.cls ≠ "java/lang/invoke/VarHandle") ∧
  (∀ sig, parseMethodDescriptor y.desc = some sig → n = sig.parameters.length) ∧ (Cond.methodLink own index y).before args s = true ∧ (Cond.static y).before args s = true
theorem vx_cwSW {own : String} {index maxL mc ms : Nat} {y : MethodName} {bytes : ByteArray} {ret : Option FieldType} {hh : List (Nat × Nat × Nat × Nat)} {Ts ws ws' : List Cond} {rm : Room} (n : Nat) (ht : ∀ w ∈ Ts, w.before args s = true) (hT : GoodIn Ts (va_wsS own index y ws)) (hw : ws = Cond.codeWith y bytes maxL ret hh :: ws') (hrc : rm.cells = mc) (hrs : rm.slots = ms)
    (hd : y.cls ≠ "java/lang/invoke/MethodHandle" ∧ y.cls ≠ "java/lang/invoke/VarHandle" ∧ (parseMethodDescriptor y.desc).map (fun d => d.parameters.length) = some n) (hR : rm.frames + 1 ≤ R.frames ∧ 8 + (maxL + 11) + rm.locals ≤ R.locals) :
    vx_CSW R s args own index y bytes maxL ret hh ws rm mc ms n := by
  have ok : ∀ w ∈ va_wsS own index y ws, w.before args s = true := fun w h => ht w (hT w h).1
  have hG : GoodIn Ts ws := fun w h => hT w (by unfold va_wsS; exact List.mem_append_right _ h)
  have hc : Cond.codeWith y bytes maxL ret hh ∈ ws := by rw [hw]; exact List.mem_cons_self
  refine ⟨⟨hrc, hrs, hR.1, hR.2, pay_in ht hG, hc⟩, ht _ (hG _ hc).1, ok _ (by simp [va_wsS]), ⟨hd.1, hd.2.1⟩, fun sig h => ?_, ok _ (by simp [va_wsS]), ok _ (by simp [va_wsS])⟩
  have h2 := hd.2.2
  rw [h] at h2
  exact (Option.some.inj h2).symm
theorem vx_callSW (X : Stand p l e R s m args below meth c T locs cells slots) (hexec : p.tables.exec = Jvm.exec) {own : String} {index : Nat} {y : MethodName} {bytes : ByteArray} {maxL : Nat} {ret : Option FieldType} {hh : List (Nat × Nat × Nat × Nat)}
    (hown : s.vm.findClass own = some m.cls) (hlink : (Cond.methodLink own index y).before args s = true) (hstat : (Cond.static y).before args s = true) (hinit : (Cond.initialized y.cls).before args s = true)
    (hcode : (Cond.codeWith y bytes maxL ret hh).before args s = true) (hy : y.cls ≠ "java/lang/invoke/MethodHandle" ∧ y.cls ≠ "java/lang/invoke/VarHandle")
    {W9 : Nat} {Pre : Pt → Array Value → Prop} {Post : Pt → Array Value → Option Value → Pt → Prop} (hK : Back l R p e below s args y 3 W9 Pre Post)
    {g : JFrame} (hg : g.method = m) (hsize : g.locals.size = c.maxLocals) {argsL rest : List Value} (hlen : ∀ sig, parseMethodDescriptor y.desc = some sig → argsL.length = sig.parameters.length)
    (hstack : g.stack = argsL.reverse ++ rest) (hW : 2 * g.monitorRoom + (rest.map fun v => v.category).sum ≤ W9) (hdg : decode c.code g.pc = .ok (.invokestatic index, 3))
    (hpre : ∀ vm₁, s.WarmedH vm₁ → Pre ⟨T.setVm vm₁, locs, cells, slots⟩ argsL.toArray) :
    ∃ (v : Option Value) (vm₁ : Vm) (B : Pt), s.WarmedH vm₁ ∧ Stand p l e R s m args below meth c B.U B.locs B.cells B.slots ∧ Post ⟨T.setVm vm₁, locs, cells, slots⟩ argsL.toArray v B ∧
      ∀ target, Steps p.tables e below (B.U.setTop { g with pc := g.pc + 3, stack := v.toList ++ rest }) target → Steps p.tables e below (T.setTop g) target := by
  obtain ⟨mk, methM, cM, hnamed, hmethM, -, -, -, -, -, -, hsigM⟩ := Cond.codeWith_spec hcode
  have hstatic : methM.isStatic = true := Cond.static_spec hnamed hmethM hstat
  obtain ⟨kP, hkP, -⟩ := className_of_methodNamed hnamed
  have hinitP : kP.init = .initialized := Cond.initialized_spec (findClass_of_methodNamed hnamed) hkP hinit
  obtain ⟨vm₁, X₁, hstep₁⟩ := X.invokestatic hexec hown hlink hnamed hmethM hstatic hkP hinitP hy (g := g) hg (argsL := argsL) (rest := rest) (hlen _ hsigM) hstack hdg
  obtain ⟨v, B, X', hpost, hsteps⟩ := hK m meth c ⟨T.setVm vm₁, locs, cells, slots⟩ { g with stack := rest } (.invokestatic index) mk argsL.toArray X₁ hg hsize hdg hW (X₁.named hnamed) (hpre vm₁ X₁.warmed)
  exact ⟨v, vm₁, B, X₁.warmed, X', hpost, fun target h => hstep₁ _ fun acts => by rw [doInvoke_state]; exact hsteps.trans h⟩
theorem vx_runSW {y : MethodName} {bytes cc : ByteArray} {maxL nL mc ms n index : Nat} {ret : Option FieldType} {hh : List (Nat × Nat × Nat × Nat)} {ws : List Cond} {rm : Room} {Pc : Array Value → State → Prop} {Qc : Array Value → State → Outcome → State → Prop} {free : Addr → Prop} {Ts : List Cond} {own : String} {As rest : List Value} {g : JFrame}
    (S : CallFix p m c cc nL s args Ts own) (hM : Met l y ws rm Pc Qc mc ms free) (cw : vx_CSW R s args own index y bytes maxL ret hh ws rm mc ms n) (hp : PreS s H Pc As)
    (hg : g.method = m) (hn : As.length = n) (hsize : g.locals.size = nL) (hstack : g.stack = As.reverse ++ rest) (hW : 2 * g.monitorRoom + (rest.map fun v => v.category).sum ≤ 8) (hdg : decode cc g.pc = .ok (.invokestatic index, 3)) (hf : cells + mc ≤ R.cells ∧ slots + ms ≤ R.slots) :
    va_Run p l e R s m args below meth c H locs cells slots mc ms g rest (Qc As.toArray) (free) := by
  obtain ⟨⟨hrc, hrs, hfr, hlo, hws, hcw⟩, hcode, hini, hy, hlen, hl, hstt⟩ := cw
  have hK : Back l R p e below s args y 3 8 (PreOf R mc ms Pc) (PostOf Qc mc ms free) := va_backW (hh := hh) (bytes := bytes) (maxL := maxL) (ret := ret) hM hp.1 hrc hrs hfr hlo hws hcw (fun a' U hW => word_at hW (Or.inl (by first | rfl | simp [Cond.onTables, Cond.keeps, Cond.steady])) hini)
  obtain ⟨hx, hb, hml, ho, -⟩ := S
  intro T hT X
  obtain ⟨v, vm₁, ⟨U', l2, c2, s2⟩, hW₁, X', ⟨g', mk, t, L, e1, e2, hq, h1, hL, h2, h3⟩, st⟩ := vx_callSW X hx (hh := hh) (bytes := bytes) (maxL := maxL) (ret := ret) ho hl hstt hini hcode hy hK hg (hsize.trans hml.symm) (argsL := As) (rest := rest) (fun sig h => hn.trans (hlen sig h)) hstack hW (by rw [hb]; exact hdg)
    (fun vm₁ hW₁ => ⟨hf.1, hf.2, hp.2 (T.setVm vm₁) hT hW₁⟩)
  dsimp only [Pt.U, Pt.locs, Pt.cells, Pt.slots] at X' e1 e2 h1 h2 h3 st
  subst h1; subst h2; subst h3
  exact ⟨v, (T.setVm vm₁).calling g' mk As.toArray, t, U', L, hT, X', hL, e1, e2, hq, st⟩
/-- not caught here, past rows that name other classes: it goes on to the caller -/
theorem vx_outP {p : Program} {l : Launch} {e : Env} {R : Room} {s : State} {m : MethodId} {args : Array Value} {below : List Frame} {meth : Method} {c : Code} {H : Heap} {locs : List Loc} {cells slots : Nat} {free : Addr → Prop} {ls : Array Slot} {rest : List Value} {Qc : Array Value → State → Outcome → State → Prop} {XC : String → State → State → Prop}
    {pc : Nat} {own E : String} {ce : Cell} {q : Addr} {mc ms : Nat} (hown : s.vm.findClass own = some m.cls) (hlocks : meth.locks = false)
    (hpass : ∀ z ∈ c.exceptionTable.toList, covers z pc = false ∨ (z.catchType ≠ 0 ∧ ∃ nm : String, (Cond.classLink own z.catchType nm).before args s = true ∧ va_Nc E nm s)) (hcell : H[q]? = some ce) (hv : ce.vm = .none) (hcl : s.vm.findClass E = some ce.cls)
    (hx : ∀ t : State, t.heap = H → s.vm.Alike t.vm → XC E s t) (hf : ∀ z ∈ locs, free z.base) (hc : cells ≤ mc) (hs : slots ≤ ms) :
    vx_W p l e R s m args below meth c H locs cells slots (vx_MQ below Qc XC args s mc ms free) (F0 m pc ls rest) q := by
  intro T hT X
  have hpl : e.platform.magicAccessors = ({} : Platform).magicAccessors := by rw [X.admits.platform]
  obtain ⟨vm', hW', X', st⟩ := X.outThrough hlocks q (g := F0 m pc ls rest) rfl rfl rfl (cell := ce) (by rw [hT]; exact hcell) (by rw [hv]; rfl)
    (by obtain ⟨k9, h9, -⟩ := Vm.findClass_spec hcl; exact ⟨k9, h9⟩) (fun z hz => by
      rcases hpass z hz with h | ⟨hz0, nm, hl1, hn1⟩
      · exact Or.inl h
      · obtain ⟨c6, hc6, hcl6⟩ := Cond.classLink_spec hown hl1 e.platform hpl
        obtain ⟨a8, b8, h1, h2, h3⟩ := hn1
        cases Option.some.inj (h1.symm.trans hcl)
        cases Option.some.inj (h2.symm.trans hc6)
        exact Or.inr ⟨hz0, _, hcl6, h3⟩)
  obtain ⟨g₀, hfr⟩ := X'.frames_eq
  have hcell9 : ((T.setVm vm').setFrames (.throwing q :: below)).heap[q]? = some ce := by
    show T.heap[q]? = some ce
    rw [hT]; exact hcell
  have hend : Ended ((T.setVm vm').setFrames (.throwing q :: below)) below (.threw q) := State.frames_setFrames _ (State.cur_lt_of_frames hfr)
  refine ⟨(T.setVm vm').setFrames (.throwing q :: below), ?_, .threw q, X'.here.running, hend, Or.inr ⟨q, rfl, E, ce, locs, hx _ hT (X'.ends _).1.alike, hcell9, hv, hcl, (X'.ends _).1, (X'.ends _).2.mono hc hs, hf⟩⟩
  rw [X.pushThrowing_eq]
  exact st
/-- a thing of a world lies in the heap -/
theorem vx_lt {D : va_G} {cl : List vw_C} {ws : va_W} {H1 : Heap} (h : va_P D cl ws H1) {k : Nat} {q : Nat × va_E} (hk : ws[k]? = some q) : q.1 < H1.size := (h k q hk).lt
end VXS
/-! ===== END ===== -/
/-! ===== BEGIN methods with a table of their own: called by a name, returning or throwing ===== -/
section VXH
/-! vx_backW, vx_callVX, vx_callSX, vx_callVW, vx_runVW, vx_runVX, vx_runSX, vx_ofWH follow the same proofs as their sisters above (Free/Laws.lean, Shelf42/LK1.lean); vx_outP calls Shelf42/NT130.lean (outThrough). -/
section
variable {l : Launch} {R : Room} {p : Program} {e : Env} {below : List Frame} {s : State} {sargs : Array Value} {y : MethodName} {len W9 : Nat}
theorem vx_backW {ws : List Cond} {rm : Room} {Pc : Array Value → State → Prop} {Qc : Array Value → State → Outcome → State → Prop} {XC : String → State → State → Prop} {mc ms : Nat} {free : Addr → Prop} {bytes : ByteArray} {maxL : Nat} {ret : Option FieldType} {hh : List (Nat × Nat × Nat × Nat)}
    (hM : vx_Met l y ws rm Pc Qc XC mc ms free) (hblind : FrameBlind Pc) (hrc : rm.cells = mc) (hrs : rm.slots = ms)
    (hframes : rm.frames + 1 ≤ R.frames) (hlocals : W9 + (maxL + 11) + rm.locals ≤ R.locals)
    (hws : ∀ w ∈ ws, ∀ a' U, s.WarmedH U.vm → w.before a' U = true) (hcode : Cond.codeWith y bytes maxL ret hh ∈ ws) (hinit : ∀ a' U, s.WarmedH U.vm → (Cond.initialized y.cls).before a' U = true) :
    vx_Back l R p e below s sargs y len W9 (PreOf R mc ms Pc) (PostOf Qc mc ms free) (vx_Post XC mc ms free) := by
  intro m meth c A g ig mk a X hg hsize hdg hW hn hp
  have h1 : (headSpec ws rm).pre.before a A.U = true := atoms_intro fun w hw => hws w hw _ _ X.warmed
  have h2 : (Cond.codeWith y bytes maxL ret hh).before a A.U = true := hws _ hcode _ _ X.warmed
  have h3 : (Cond.initialized y.cls).before a A.U = true := hinit _ _ X.warmed
  have h4 : A.cells + (headSpec ws rm).room.cells ≤ R.cells := by rw [show (headSpec ws rm).room.cells = mc from hrc]; exact hp.1
  have h5 : A.slots + (headSpec ws rm).room.slots ≤ R.slots := by rw [show (headSpec ws rm).room.slots = ms from hrs]; exact hp.2.1
  have hPc : Pc a (A.U.calling g mk a) := hblind _ _ _ _ hp.2.2
  obtain ⟨U, Ls, c0, s0⟩ := A
  dsimp only [Pt.U, Pt.locs, Pt.cells, Pt.slots] at h1 h2 h3 h4 h5 X hn hPc ⊢
  obtain ⟨m9, methY, cY, hn9, hmY, hcY, -, hlY, -⟩ := Cond.codeWith_spec h2
  cases Option.some.inj (hn9.symm.trans hn)
  obtain ⟨kY, hkY, -⟩ := className_of_methodNamed hn
  have hinitY : kY.init = .initialized := Cond.initialized_spec (findClass_of_methodNamed hn) hkY h3
  have h : At U g.method c below := by rw [hg]; exact X.here
  have hlocals9 : W9 + (maxL + 11) + (headSpec ws rm).room.locals ≤ R.locals := hlocals
  have happ : (headSpec ws rm).appliesLoose y e.platform (U.calling g mk a) = true :=
    Spec.appliesLoose_calling (g := g) h hdg hn hkY hinitY
      (X.room_calling (g := g) (R' := (headSpec ws rm).room) hsize hmY hcY hframes (by rw [hlY]; omega) h4 h5) h1
  obtain ⟨mid, hmid⟩ := h.above
  have hfr : (U.setTop g).frames = (.java g :: mid) ++ below := by rw [State.frames_setTop' g h.top, hmid]; rfl
  obtain ⟨o, s₂, hsteps, -, hend, hq⟩ := Steps.callFree hM p X.admits X.cas X.clock (acts := []) hfr happ hPc trivial
  have hq' : vx_Q Qc XC mc ms free a (U.calling g mk a) o s₂ := hq
  rw [State.frames_setTop' g h.top] at hend
  obtain ⟨g₀, hg0⟩ := Option.isSome_iff_exists.mp h.top
  obtain ⟨r, hr⟩ := State.topJava?_eq_some.mp hg0
  have hr' : (({ U with heap := s₂.heap, slotsUsed := s₂.slotsUsed } : State).setVm s₂.vm).frames = .java g₀ :: r := hr
  rcases hq' with ⟨hqc, L, hfe, hL⟩ | ⟨q, rfl, E, ce, L, hx, hce, hcv, hcl, hW₂, hsm, hL⟩
  · obtain ⟨⟨v, rfl⟩, hW₂, e2, q2, q3, q4, q5, q6⟩ := id hfe
    have e3 : s₂ = ({ (U.calling g mk a).setFrames s₂.frames with heap := s₂.heap, slotsUsed := s₂.slotsUsed } : State).setVm s₂.vm := by
      have : s₂ = ({ s₂ with vm := (U.calling g mk a).vm } : State).setVm s₂.vm := rfl
      rw [e2] at this
      exact this
    obtain ⟨c₂, i₂, len₂, hc₂, hd₂, hf₂⟩ := hend
    have hW' : U.WarmedH s₂.vm := hW₂
    have hcc : c₂ = c := by
      have h1 : s₂.code? g.method = U.code? g.method := by
        rw [State.code?_eq, State.code?_eq, hW'.alike.method?]
      exact Option.some.inj (hc₂.symm.trans (h1.trans h.code))
    subst hcc
    have hlen : len₂ = len := by rw [hdg] at hd₂; cases hd₂; rfl
    subst hlen
    have hs₂ : s₂ = (({ U with heap := s₂.heap, slotsUsed := s₂.slotsUsed } : State).setVm s₂.vm).setTop { g with pc := g.pc + len₂, stack := v.toList ++ g.stack } := by
      refine e3.trans ?_
      rw [hf₂, State.calling_eq h.top, State.setFrames_setFrames, State.setTop_of_frames _ hr', hr]
      rfl
    have hsame : U.sameButNew ({ U with heap := s₂.heap, slotsUsed := s₂.slotsUsed } : State) L mc ms := by
      refine ⟨?_, q2, q3, q4, q5, q6⟩
      obtain ⟨t, ht, -⟩ := State.frames_cons hr
      show ({ U with heap := s₂.heap, slotsUsed := s₂.slotsUsed } : State) = { U.setFrames U.frames with heap := s₂.heap, slotsUsed := s₂.slotsUsed }
      rw [State.setFrames_self ht]
    subst hg
    refine Or.inl ⟨v, ⟨(({ U with heap := s₂.heap, slotsUsed := s₂.slotsUsed } : State).setVm s₂.vm), Ls ++ L, c0 + mc, s0 + ms⟩,
      ⟨X.admits, X.cas, X.clock, X.frames, X.room, X.hears, X.method, X.code, (X.here.setHeapUsed s₂.heap s₂.slotsUsed).setVm hW'.alike, X.tail, State.WarmedH.trans X.warmed hW', X.limits, X.bytes, X.same.trans (hsame.setVm s.vm)⟩,
      ⟨g, mk, s₂, L, rfl, rfl, hqc, rfl, hL, rfl, rfl⟩, ?_⟩
    show Steps p.tables e below _ ((({ U with heap := s₂.heap, slotsUsed := s₂.slotsUsed } : State).setVm s₂.vm).setTop { g with pc := g.pc + len₂, stack := v.toList ++ g.stack })
    rw [← hs₂]
    exact hsteps
  · obtain ⟨e2, q2, q3, q4, q5, q6⟩ := id hsm
    have e3 : s₂ = ({ (U.calling g mk a).setFrames s₂.frames with heap := s₂.heap, slotsUsed := s₂.slotsUsed } : State).setVm s₂.vm := by
      have : s₂ = ({ s₂ with vm := (U.calling g mk a).vm } : State).setVm s₂.vm := rfl
      rw [e2] at this
      exact this
    have hf₂ : s₂.frames = .throwing q :: .java g :: U.frames.tail := hend
    have hW' : U.WarmedH s₂.vm := hW₂
    have hs₂ : s₂ = ((({ U with heap := s₂.heap, slotsUsed := s₂.slotsUsed } : State).setVm s₂.vm).setTop g).pushFrame (.throwing q) := by
      refine e3.trans ?_
      rw [hf₂, State.calling_eq h.top, State.setFrames_setFrames, State.pushFrame, State.frames_setTop _ hr', State.setTop_of_frames _ hr', State.setFrames_setFrames, hr]
      rfl
    have hsame : U.sameButNew ({ U with heap := s₂.heap, slotsUsed := s₂.slotsUsed } : State) L mc ms := by
      refine ⟨?_, q2, q3, q4, q5, q6⟩
      obtain ⟨t, ht, -⟩ := State.frames_cons hr
      show ({ U with heap := s₂.heap, slotsUsed := s₂.slotsUsed } : State) = { U.setFrames U.frames with heap := s₂.heap, slotsUsed := s₂.slotsUsed }
      rw [State.setFrames_self ht]
    subst hg
    refine Or.inr ⟨q, ⟨(({ U with heap := s₂.heap, slotsUsed := s₂.slotsUsed } : State).setVm s₂.vm), Ls ++ L, c0 + mc, s0 + ms⟩,
      ⟨X.admits, X.cas, X.clock, X.frames, X.room, X.hears, X.method, X.code, (X.here.setHeapUsed s₂.heap s₂.slotsUsed).setVm hW'.alike, X.tail, State.WarmedH.trans X.warmed hW', X.limits, X.bytes, X.same.trans (hsame.setVm s.vm)⟩,
      ⟨g, mk, s₂, L, E, ce, rfl, rfl, hx, hce, hcv, hcl, rfl, hL, rfl, rfl⟩, ?_⟩
    show Steps p.tables e below _ (((({ U with heap := s₂.heap, slotsUsed := s₂.slotsUsed } : State).setVm s₂.vm).setTop g).pushFrame (.throwing q))
    rw [← hs₂]
    exact hsteps
end
variable {p : Program} {l : Launch} {e : Env} {R : Room} {s : State} {m : MethodId} {args : Array Value} {below : List Frame} {meth : Method} {c : Code} {T : State} {H : Heap} {locs : List Loc} {cells slots : Nat}
theorem vx_callVX (X : Stand p l e R s m args below meth c T locs cells slots) (hexec : p.tables.exec = Jvm.exec) {own C : String} {index : Nat} {y : MethodName} {bytes : ByteArray} {maxL : Nat} {ret : Option FieldType} {hh : List (Nat × Nat × Nat × Nat)}
    (hown : s.vm.findClass own = some m.cls) (hlink : (Cond.methodLink own index y).before args s = true) (hinst : (Cond.instanceMethod y).before args s = true) (hsel : (Cond.selects C y y).before args s = true)
    (hcode : (Cond.codeWith y bytes maxL ret hh).before args s = true) (hy : y.cls ≠ "java/lang/invoke/MethodHandle" ∧ y.cls ≠ "java/lang/invoke/VarHandle")
    {W9 : Nat} {Pre : Pt → Array Value → Prop} {Post : Pt → Array Value → Option Value → Pt → Prop} {PostX : Pt → Array Value → Addr → Pt → Prop} (hK : vx_Back l R p e below s args y 3 W9 Pre Post PostX)
    {b : Addr} {cellB : Cell} (hcell : T.heap[b]? = some cellB) (hobj : cellB.vm.isStatics = false) (hcls : s.vm.findClass C = some cellB.cls)
    {g : JFrame} (hg : g.method = m) (hsize : g.locals.size = c.maxLocals) {argsL rest : List Value} (hlen : ∀ sig, parseMethodDescriptor y.desc = some sig → argsL.length = sig.parameters.length)
    (hstack : g.stack = argsL.reverse ++ .ref b :: rest) (hW : 2 * g.monitorRoom + (rest.map fun v => v.category).sum ≤ W9) (hdg : decode c.code g.pc = .ok (.invokevirtual index, 3))
    (hpre : ∀ vm₁, s.WarmedH vm₁ → Pre ⟨T.setVm vm₁, locs, cells, slots⟩ (Value.ref b :: argsL).toArray) :
    (∃ (v : Option Value) (vm₁ : Vm) (B : Pt), s.WarmedH vm₁ ∧ Stand p l e R s m args below meth c B.U B.locs B.cells B.slots ∧ Post ⟨T.setVm vm₁, locs, cells, slots⟩ (Value.ref b :: argsL).toArray v B ∧
      ∀ target, Steps p.tables e below (B.U.setTop { g with pc := g.pc + 3, stack := v.toList ++ rest }) target → Steps p.tables e below (T.setTop g) target) ∨
    (∃ (q : Addr) (vm₁ : Vm) (B : Pt), s.WarmedH vm₁ ∧ Stand p l e R s m args below meth c B.U B.locs B.cells B.slots ∧ PostX ⟨T.setVm vm₁, locs, cells, slots⟩ (Value.ref b :: argsL).toArray q B ∧
      Steps p.tables e below (T.setTop g) ((B.U.setTop { g with stack := rest }).pushFrame (.throwing q))) := by
  obtain ⟨mk, methM, hnamed, hmethM, hstM, habM⟩ := Cond.instanceMethod_spec hinst
  obtain ⟨m8, methM', cM, hn8, hmethM', -, -, -, -, -, -, hsigM⟩ := Cond.codeWith_spec hcode
  cases Option.some.inj (hn8.symm.trans hnamed)
  cases hmethM.symm.trans hmethM'
  obtain ⟨c2, r2, m2, q1, q2, q3, q4, kP, hkP, hkPi⟩ := Cond.selects_spec hsel
  cases hcls.symm.trans q1
  cases (State.methodFound?_of_named hnamed hy).symm.trans q2
  cases hnamed.symm.trans q3
  have hselP : selectMethod e.platform s.vm cellB.cls mk = .method mk := by rw [Launch.admits_selectMethod X.admits]; exact q4
  obtain ⟨vm₁, X₁, hstep₁⟩ := X.invokevirtual hexec hown hlink hnamed hmethM hstM hkP hkPi hy (a := b) (cell := cellB) hcell
    (fun z h => by rw [h] at hobj; cases hobj) hselP hmethM habM hkP hkPi (g := g) hg (argsL := argsL) (rest := rest) (hlen _ hsigM) hstack hdg
  rcases hK m meth c ⟨T.setVm vm₁, locs, cells, slots⟩ { g with stack := rest } (.invokevirtual index) mk (Value.ref b :: argsL).toArray X₁ hg hsize hdg hW (X₁.named hnamed) (hpre vm₁ X₁.warmed) with ⟨v, B, X', hpost, hsteps⟩ | ⟨q, B, X', hpost, hsteps⟩
  · exact Or.inl ⟨v, vm₁, B, X₁.warmed, X', hpost, fun target h => hstep₁ _ fun acts => by rw [doInvoke_state]; exact hsteps.trans h⟩
  · exact Or.inr ⟨q, vm₁, B, X₁.warmed, X', hpost, hstep₁ _ fun acts => by rw [doInvoke_state]; exact hsteps⟩
theorem vx_callSX (X : Stand p l e R s m args below meth c T locs cells slots) (hexec : p.tables.exec = Jvm.exec) {own : String} {index : Nat} {y : MethodName} {bytes : ByteArray} {maxL : Nat} {ret : Option FieldType} {hh : List (Nat × Nat × Nat × Nat)}
    (hown : s.vm.findClass own = some m.cls) (hlink : (Cond.methodLink own index y).before args s = true) (hstat : (Cond.static y).before args s = true) (hinit : (Cond.initialized y.cls).before args s = true)
    (hcode : (Cond.codeWith y bytes maxL ret hh).before args s = true) (hy : y.cls ≠ "java/lang/invoke/MethodHandle" ∧ y.cls ≠ "java/lang/invoke/VarHandle")
    {W9 : Nat} {Pre : Pt → Array Value → Prop} {Post : Pt → Array Value → Option Value → Pt → Prop} {PostX : Pt → Array Value → Addr → Pt → Prop} (hK : vx_Back l R p e below s args y 3 W9 Pre Post PostX)
    {g : JFrame} (hg : g.method = m) (hsize : g.locals.size = c.maxLocals) {argsL rest : List Value} (hlen : ∀ sig, parseMethodDescriptor y.desc = some sig → argsL.length = sig.parameters.length)
    (hstack : g.stack = argsL.reverse ++ rest) (hW : 2 * g.monitorRoom + (rest.map fun v => v.category).sum ≤ W9) (hdg : decode c.code g.pc = .ok (.invokestatic index, 3))
    (hpre : ∀ vm₁, s.WarmedH vm₁ → Pre ⟨T.setVm vm₁, locs, cells, slots⟩ argsL.toArray) :
    (∃ (v : Option Value) (vm₁ : Vm) (B : Pt), s.WarmedH vm₁ ∧ Stand p l e R s m args below meth c B.U B.locs B.cells B.slots ∧ Post ⟨T.setVm vm₁, locs, cells, slots⟩ argsL.toArray v B ∧
      ∀ target, Steps p.tables e below (B.U.setTop { g with pc := g.pc + 3, stack := v.toList ++ rest }) target → Steps p.tables e below (T.setTop g) target) ∨
    (∃ (q : Addr) (vm₁ : Vm) (B : Pt), s.WarmedH vm₁ ∧ Stand p l e R s m args below meth c B.U B.locs B.cells B.slots ∧ PostX ⟨T.setVm vm₁, locs, cells, slots⟩ argsL.toArray q B ∧
      Steps p.tables e below (T.setTop g) ((B.U.setTop { g with stack := rest }).pushFrame (.throwing q))) := by
  obtain ⟨mk, methM, cM, hnamed, hmethM, -, -, -, -, -, -, hsigM⟩ := Cond.codeWith_spec hcode
  have hstatic : methM.isStatic = true := Cond.static_spec hnamed hmethM hstat
  obtain ⟨kP, hkP, -⟩ := className_of_methodNamed hnamed
  have hinitP : kP.init = .initialized := Cond.initialized_spec (findClass_of_methodNamed hnamed) hkP hinit
  obtain ⟨vm₁, X₁, hstep₁⟩ := X.invokestatic hexec hown hlink hnamed hmethM hstatic hkP hinitP hy (g := g) hg (argsL := argsL) (rest := rest) (hlen _ hsigM) hstack hdg
  rcases hK m meth c ⟨T.setVm vm₁, locs, cells, slots⟩ { g with stack := rest } (.invokestatic index) mk argsL.toArray X₁ hg hsize hdg hW (X₁.named hnamed) (hpre vm₁ X₁.warmed) with ⟨v, B, X', hpost, hsteps⟩ | ⟨q, B, X', hpost, hsteps⟩
  · exact Or.inl ⟨v, vm₁, B, X₁.warmed, X', hpost, fun target h => hstep₁ _ fun acts => by rw [doInvoke_state]; exact hsteps.trans h⟩
  · exact Or.inr ⟨q, vm₁, B, X₁.warmed, X', hpost, hstep₁ _ fun acts => by rw [doInvoke_state]; exact hsteps⟩
theorem vx_callVW (X : Stand p l e R s m args below meth c T locs cells slots) (hexec : p.tables.exec = Jvm.exec) {own C : String} {index : Nat} {y : MethodName} {bytes : ByteArray} {maxL : Nat} {ret : Option FieldType} {hh : List (Nat × Nat × Nat × Nat)}
    (hown : s.vm.findClass own = some m.cls) (hlink : (Cond.methodLink own index y).before args s = true) (hinst : (Cond.instanceMethod y).before args s = true) (hsel : (Cond.selects C y y).before args s = true)
    (hcode : (Cond.codeWith y bytes maxL ret hh).before args s = true) (hy : y.cls ≠ "java/lang/invoke/MethodHandle" ∧ y.cls ≠ "java/lang/invoke/VarHandle")
    {W9 : Nat} {Pre : Pt → Array Value → Prop} {Post : Pt → Array Value → Option Value → Pt → Prop} (hK : Back l R p e below s args y 3 W9 Pre Post)
    {b : Addr} {cellB : Cell} (hcell : T.heap[b]? = some cellB) (hobj : cellB.vm.isStatics = false) (hcls : s.vm.findClass C = some cellB.cls)
    {g : JFrame} (hg : g.method = m) (hsize : g.locals.size = c.maxLocals) {argsL rest : List Value} (hlen : ∀ sig, parseMethodDescriptor y.desc = some sig → argsL.length = sig.parameters.length)
    (hstack : g.stack = argsL.reverse ++ .ref b :: rest) (hW : 2 * g.monitorRoom + (rest.map fun v => v.category).sum ≤ W9) (hdg : decode c.code g.pc = .ok (.invokevirtual index, 3))
    (hpre : ∀ vm₁, s.WarmedH vm₁ → Pre ⟨T.setVm vm₁, locs, cells, slots⟩ (Value.ref b :: argsL).toArray) :
    ∃ (v : Option Value) (vm₁ : Vm) (B : Pt), s.WarmedH vm₁ ∧ Stand p l e R s m args below meth c B.U B.locs B.cells B.slots ∧ Post ⟨T.setVm vm₁, locs, cells, slots⟩ (Value.ref b :: argsL).toArray v B ∧
      ∀ target, Steps p.tables e below (B.U.setTop { g with pc := g.pc + 3, stack := v.toList ++ rest }) target → Steps p.tables e below (T.setTop g) target := by
  obtain ⟨mk, methM, hnamed, hmethM, hstM, habM⟩ := Cond.instanceMethod_spec hinst
  obtain ⟨m8, methM', cM, hn8, hmethM', -, -, -, -, -, -, hsigM⟩ := Cond.codeWith_spec hcode
  cases Option.some.inj (hn8.symm.trans hnamed)
  cases hmethM.symm.trans hmethM'
  obtain ⟨c2, r2, m2, q1, q2, q3, q4, kP, hkP, hkPi⟩ := Cond.selects_spec hsel
  cases hcls.symm.trans q1
  cases (State.methodFound?_of_named hnamed hy).symm.trans q2
  cases hnamed.symm.trans q3
  have hselP : selectMethod e.platform s.vm cellB.cls mk = .method mk := by rw [Launch.admits_selectMethod X.admits]; exact q4
  obtain ⟨vm₁, X₁, hstep₁⟩ := X.invokevirtual hexec hown hlink hnamed hmethM hstM hkP hkPi hy (a := b) (cell := cellB) hcell
    (fun z h => by rw [h] at hobj; cases hobj) hselP hmethM habM hkP hkPi (g := g) hg (argsL := argsL) (rest := rest) (hlen _ hsigM) hstack hdg
  obtain ⟨v, B, X', hpost, hsteps⟩ := hK m meth c ⟨T.setVm vm₁, locs, cells, slots⟩ { g with stack := rest } (.invokevirtual index) mk (Value.ref b :: argsL).toArray X₁ hg hsize hdg hW (X₁.named hnamed) (hpre vm₁ X₁.warmed)
  exact ⟨v, vm₁, B, X₁.warmed, X', hpost, fun target h => hstep₁ _ fun acts => by rw [doInvoke_state]; exact hsteps.trans h⟩
abbrev vx_CVW (R : Room) (s : State) (args : Array Value) (own C : String) (index : Nat) (y : MethodName) (bytes : ByteArray) (maxL : Nat) (ret : Option FieldType) (hh : List (Nat × Nat × Nat × Nat)) (ws : List Cond) (rm : Room) (mc ms n : Nat) : Prop :=
  (rm.cells = mc ∧ rm.slots = ms ∧ rm.frames + 1 ≤ R.frames ∧ 8 + (maxL + 11) + rm.locals ≤ R.locals ∧ (∀ w ∈ ws, ∀ (a' : Array Value) (U : State), s.WarmedH U.vm → w.before a' U = true) ∧ Cond.codeWith y bytes maxL ret hh ∈ ws) ∧
  (Cond.codeWith y bytes maxL ret hh).before args s = true ∧ (Cond.initialized y.cls).before args s = true ∧ (y.cls ≠ "java/lang/invoke/MethodHandle" ∧ y.cls ≠ "java/lang/invoke/VarHandle") ∧
  (∀ sig, parseMethodDescriptor y.desc = some sig → n = sig.parameters.length) ∧ (Cond.methodLink own index y).before args s = true ∧ (Cond.instanceMethod y).before args s = true ∧ (Cond.selects C y y).before args s = true
theorem vx_cwVW {own C : String} {index maxL mc ms : Nat} {y : MethodName} {bytes : ByteArray} {ret : Option FieldType} {hh : List (Nat × Nat × Nat × Nat)} {Ts ws ws' : List Cond} {rm : Room} (n : Nat) (ht : ∀ w ∈ Ts, w.before args s = true) (hT : GoodIn Ts (wsV own index C y ws)) (hw : ws = Cond.codeWith y bytes maxL ret hh :: ws') (hrc : rm.cells = mc) (hrs : rm.slots = ms)
    (hd : y.cls = C ∧ y.cls ≠ "java/lang/invoke/MethodHandle" ∧ y.cls ≠ "java/lang/invoke/VarHandle" ∧ (parseMethodDescriptor y.desc).map (fun d => d.parameters.length) = some n) (hR : rm.frames + 1 ≤ R.frames ∧ 8 + (maxL + 11) + rm.locals ≤ R.locals) :
    vx_CVW R s args own C index y bytes maxL ret hh ws rm mc ms n := by
  obtain ⟨hC, hd⟩ := hd
  subst hC
  have ok : ∀ w ∈ wsV own index y.cls y ws, w.before args s = true := fun w h => ht w (hT w h).1
  have hG : GoodIn Ts ws := fun w h => hT w (by unfold wsV; exact List.mem_append_right _ h)
  have hc : Cond.codeWith y bytes maxL ret hh ∈ ws := by rw [hw]; exact List.mem_cons_self
  refine ⟨⟨hrc, hrs, hR.1, hR.2, pay_in ht hG, hc⟩, ht _ (hG _ hc).1, ok _ (by simp [wsV]), ⟨hd.1, hd.2.1⟩, fun sig h => ?_, ok _ (by simp [wsV]), ok _ (by simp [wsV]), ok _ (by simp [wsV])⟩
  have h2 := hd.2.2
  rw [h] at h2
  exact (Option.some.inj h2).symm
theorem vx_runVW {y : MethodName} {bytes cc : ByteArray} {maxL nL mc ms n index : Nat} {ret : Option FieldType} {hh : List (Nat × Nat × Nat × Nat)} {ws : List Cond} {rm : Room} {Pc : Array Value → State → Prop} {Qc : Array Value → State → Outcome → State → Prop} {free : Addr → Prop} {Ts : List Cond} {own C : String} {b : Addr} {As rest : List Value} {g : JFrame}
    (S : CallFix p m c cc nL s args Ts own) (hM : Met l y ws rm Pc Qc mc ms free) (cw : vx_CVW R s args own C index y bytes maxL ret hh ws rm mc ms n) (hp : PreV s H C b Pc As)
    (hg : g.method = m) (hn : As.length = n) (hsize : g.locals.size = nL) (hstack : g.stack = As.reverse ++ .ref b :: rest) (hW : 2 * g.monitorRoom + (rest.map fun v => v.category).sum ≤ 8) (hdg : decode cc g.pc = .ok (.invokevirtual index, 3)) (hf : cells + mc ≤ R.cells ∧ slots + ms ≤ R.slots) :
    va_Run p l e R s m args below meth c H locs cells slots mc ms g rest (Qc (Value.ref b :: As).toArray) free := by
  obtain ⟨⟨hrc, hrs, hfr, hlo, hws, hcw⟩, hcode, hini, hy, hlen, hl, hin, hse⟩ := cw
  have hK : Back l R p e below s args y 3 8 (PreOf R mc ms Pc) (PostOf Qc mc ms free) := va_backW (hh := hh) (bytes := bytes) (maxL := maxL) (ret := ret) hM hp.1 hrc hrs hfr hlo hws hcw (fun a' U hW => word_at hW (Or.inl (by first | rfl | simp [Cond.onTables, Cond.keeps, Cond.steady])) hini)
  obtain ⟨hx, hb, hml, ho, -⟩ := S
  obtain ⟨-, ⟨cellB, hcB, hoB, hclB⟩, hPc⟩ := hp
  intro T hT X
  obtain ⟨v, vm₁, ⟨U', l2, c2, s2⟩, hW₁, X', ⟨g', mk, t, L, e1, e2, hq, h1, hL, h2, h3⟩, st⟩ := vx_callVW X hx (C := C) (hh := hh) (bytes := bytes) (maxL := maxL) (ret := ret) ho hl hin hse hcode hy hK (by rw [hT]; exact hcB) hoB hclB hg (hsize.trans hml.symm) (argsL := As) (rest := rest) (fun sig h => hn.trans (hlen sig h)) hstack hW (by rw [hb]; exact hdg)
    (fun vm₁ hW₁ => ⟨hf.1, hf.2, hPc (T.setVm vm₁) hT hW₁⟩)
  dsimp only [Pt.U, Pt.locs, Pt.cells, Pt.slots] at X' e1 e2 h1 h2 h3 st
  subst h1; subst h2; subst h3
  exact ⟨v, (T.setVm vm₁).calling g' mk (Value.ref b :: As).toArray, t, U', L, hT, X', hL, e1, e2, hq, st⟩
section
variable {y : MethodName} {bytes cc : ByteArray} {maxL nL mc ms n index : Nat} {ret : Option FieldType} {ws : List Cond} {rm : Room} {Pc : Array Value → State → Prop} {Qc : Array Value → State → Outcome → State → Prop} {XC : String → State → State → Prop} {free : Addr → Prop} {Ts : List Cond} {own C : String} {b : Addr} {As rest : List Value} {g : JFrame}
theorem vx_runVX {hh : List (Nat × Nat × Nat × Nat)} (S : CallFix p m c cc nL s args Ts own) (hM : vx_Met l y ws rm Pc Qc XC mc ms free) (cw : vx_CVW R s args own C index y bytes maxL ret hh ws rm mc ms n) (hp : PreV s H C b Pc As)
    (hg : g.method = m) (hn : As.length = n) (hsize : g.locals.size = nL) (hstack : g.stack = As.reverse ++ .ref b :: rest) (hW : 2 * g.monitorRoom + (rest.map fun v => v.category).sum ≤ 8) (hdg : decode cc g.pc = .ok (.invokevirtual index, 3)) (hf : cells + mc ≤ R.cells ∧ slots + ms ≤ R.slots) :
    vx_Run p l e R s m args below meth c H locs cells slots mc ms g rest (Qc (Value.ref b :: As).toArray) XC free := by
  obtain ⟨⟨hrc, hrs, hfr, hlo, hws, hcw⟩, hcode, hini, hy, hlen, hl, hin, hse⟩ := cw
  have hK : vx_Back l R p e below s args y 3 8 (PreOf R mc ms Pc) (PostOf Qc mc ms free) (vx_Post XC mc ms free) := vx_backW (hh := hh) (bytes := bytes) (maxL := maxL) (ret := ret) hM hp.1 hrc hrs hfr hlo hws hcw (fun a' U hW => word_at hW (Or.inl (by first | rfl | simp [Cond.onTables, Cond.keeps, Cond.steady])) hini)
  obtain ⟨hx, hb, hml, ho, -⟩ := S
  obtain ⟨-, ⟨cellB, hcB, hoB, hclB⟩, hPc⟩ := hp
  intro T hT X
  rcases vx_callVX X hx (C := C) (hh := hh) (bytes := bytes) (maxL := maxL) (ret := ret) ho hl hin hse hcode hy hK (by rw [hT]; exact hcB) hoB hclB hg (hsize.trans hml.symm) (argsL := As) (rest := rest) (fun sig h => hn.trans (hlen sig h)) hstack hW (by rw [hb]; exact hdg)
    (fun vm₁ hW₁ => ⟨hf.1, hf.2, hPc (T.setVm vm₁) hT hW₁⟩) with ⟨v, vm₁, ⟨U', l2, c2, s2⟩, hW₁, X', ⟨g', mk, t, L, e1, e2, hq, h1, hL, h2, h3⟩, st⟩ | ⟨q, vm₁, ⟨U', l2, c2, s2⟩, hW₁, X', ⟨g', mk, t, L, E, ce, e1, e2, hq, hce, hcv, hcl, h1, hL, h2, h3⟩, st⟩
  · dsimp only [Pt.U, Pt.locs, Pt.cells, Pt.slots] at X' e1 e2 h1 h2 h3 st
    subst h1; subst h2; subst h3
    exact Or.inl ⟨v, (T.setVm vm₁).calling g' mk (Value.ref b :: As).toArray, t, U', L, hT, X', hL, e1, e2, hq, st⟩
  · dsimp only [Pt.U, Pt.locs, Pt.cells, Pt.slots] at X' e1 e2 h1 h2 h3 st hcl
    subst h1; subst h2; subst h3
    exact Or.inr ⟨q, (T.setVm vm₁).calling g' mk (Value.ref b :: As).toArray, t, U', L, E, ce, hT, X', hL, e1, e2, hq, hce, hcv, vx_cls hW₁ hcl, st⟩
theorem vx_runSX {hh : List (Nat × Nat × Nat × Nat)} (S : CallFix p m c cc nL s args Ts own) (hM : vx_Met l y ws rm Pc Qc XC mc ms free) (cw : vx_CSW R s args own index y bytes maxL ret hh ws rm mc ms n) (hp : PreS s H Pc As)
    (hg : g.method = m) (hn : As.length = n) (hsize : g.locals.size = nL) (hstack : g.stack = As.reverse ++ rest) (hW : 2 * g.monitorRoom + (rest.map fun v => v.category).sum ≤ 8) (hdg : decode cc g.pc = .ok (.invokestatic index, 3)) (hf : cells + mc ≤ R.cells ∧ slots + ms ≤ R.slots) :
    vx_Run p l e R s m args below meth c H locs cells slots mc ms g rest (Qc As.toArray) XC free := by
  obtain ⟨⟨hrc, hrs, hfr, hlo, hws, hcw⟩, hcode, hini, hy, hlen, hl, hstt⟩ := cw
  have hK : vx_Back l R p e below s args y 3 8 (PreOf R mc ms Pc) (PostOf Qc mc ms free) (vx_Post XC mc ms free) := vx_backW (hh := hh) (bytes := bytes) (maxL := maxL) (ret := ret) hM hp.1 hrc hrs hfr hlo hws hcw (fun a' U hW => word_at hW (Or.inl (by first | rfl | simp [Cond.onTables, Cond.keeps, Cond.steady])) hini)
  obtain ⟨hx, hb, hml, ho, -⟩ := S
  intro T hT X
  rcases vx_callSX X hx (hh := hh) (bytes := bytes) (maxL := maxL) (ret := ret) ho hl hstt hini hcode hy hK hg (hsize.trans hml.symm) (argsL := As) (rest := rest) (fun sig h => hn.trans (hlen sig h)) hstack hW (by rw [hb]; exact hdg)
    (fun vm₁ hW₁ => ⟨hf.1, hf.2, hp.2 (T.setVm vm₁) hT hW₁⟩) with ⟨v, vm₁, ⟨U', l2, c2, s2⟩, hW₁, X', ⟨g', mk, t, L, e1, e2, hq, h1, hL, h2, h3⟩, st⟩ | ⟨q, vm₁, ⟨U', l2, c2, s2⟩, hW₁, X', ⟨g', mk, t, L, E, ce, e1, e2, hq, hce, hcv, hcl, h1, hL, h2, h3⟩, st⟩
  · dsimp only [Pt.U, Pt.locs, Pt.cells, Pt.slots] at X' e1 e2 h1 h2 h3 st
    subst h1; subst h2; subst h3
    exact Or.inl ⟨v, (T.setVm vm₁).calling g' mk As.toArray, t, U', L, hT, X', hL, e1, e2, hq, st⟩
  · dsimp only [Pt.U, Pt.locs, Pt.cells, Pt.slots] at X' e1 e2 h1 h2 h3 st hcl
    subst h1; subst h2; subst h3
    exact Or.inr ⟨q, (T.setVm vm₁).calling g' mk As.toArray, t, U', L, E, ce, hT, X', hL, e1, e2, hq, hce, hcv, vx_cls hW₁ hcl, st⟩
end
end VXH
theorem vx_ofWH {l : Launch} {y : MethodName} {ws ws' : List Cond} {rm : Room} {Pc : Array Value → State → Prop} {Qc : Array Value → State → Outcome → State → Prop} {XC : String → State → State → Prop} {mc ms : Nat} {free : Addr → Prop} {cc : ByteArray} {maxL : Nat} {ret : Option FieldType} {hh : List (Nat × Nat × Nat × Nat)}
    (hy : plainName y.cls = true) (hw : ws = Cond.codeWith y cc maxL ret hh :: ws')
    (body : ∀ p e s m args below meth c s₁, BodyLoose p l y (headSpec ws rm) cc maxL ret e s m args below meth c s₁ → c.maxLocals = maxL → Pc args s →
      W p l e (headSpec ws rm).room s m args below meth c s.heap [] 0 0 (vx_MQ below Qc XC args s mc ms free) (entryFrame m args maxL)) : vx_Met l y ws rm Pc Qc XC mc ms free := by
  refine MetFree.of_bodyS (code := cc) (maxLocals := maxL) (ret := ret) hy ?_ ?_
  · intro args s m h hn
    obtain ⟨m9, meth, c, hn9, h1, h2, h3, h4, -, h5, h6, -⟩ := Cond.codeWith_spec (atoms_spec (ws := ws) h _ (by rw [hw]; exact List.mem_cons_self))
    cases hn.symm.trans hn9
    exact ⟨meth, c, h1, h2, h3, h4, h5, h6⟩
  · intro p e s m args below meth c s₁ B hml hP _
    have hh0 : s₁.heap = s.heap := by rw [B.state]; rfl
    obtain ⟨t, a1, o, b1, b2, b3⟩ := body p e s m args below meth c s₁ B hml hP s₁ hh0 (Stand.of_body B)
    exact ⟨t, o, a1, b1, b2, b3⟩
/-! ===== END ===== -/

/-! ===== BEGIN printed: names, fields, word lists, decode rows ===== -/
def RX0 : String := "CapitalReckoner$Exposure"
def TX0 : u_T := fun k => match k with
  | 0 => ("CapitalReckoner$Exposure", "party", "I", true)
  | 1 => ("CapitalReckoner$Exposure", "currency", "I", true)
  | 2 => ("CapitalReckoner$Exposure", "days", "I", true)
  | 3 => ("CapitalReckoner$Exposure", "kind", "I", false)
  | 4 => ("CapitalReckoner$Exposure", "drawn", "I", false)
  | 5 => ("CapitalReckoner$Exposure", "promised", "I", false)
  | 6 => ("CapitalReckoner$Exposure", "guaranteeKind", "I", false)
  | _ => ("CapitalReckoner$Exposure", "guaranteeSum", "I", false)
def tyX0 : Nat → FieldType := fun k => match k with
  | 0 => .int
  | 1 => .int
  | 2 => .int
  | 3 => .int
  | 4 => .int
  | 5 => .int
  | 6 => .int
  | _ => .int
abbrev wsX00 : List Cond := u_ws RX0 TX0 8
theorem nmX0 : ∀ a, a < 8 → ∀ b, b < 8 → a ≠ b → (TX0 a).2.1 ≠ (TX0 b).2.1 := by decide +kernel
theorem tyX0_ok : ∀ k, k < 8 → parseFieldDescriptor (TX0 k).2.2.1 = some (tyX0 k) := by decide +kernel
abbrev cX0_init : ByteArray := prog_2_method_1_code
def yX0_init : MethodName := ⟨RX0, "<init>", "(IIIIII)V"⟩
abbrev cX0_amountNow : ByteArray := prog_2_method_2_code
def yX0_amountNow : MethodName := ⟨RX0, "amountNow", "()I"⟩
def RX1 : String := "CapitalReckoner$Piece"
def TX1 : u_T := fun k => match k with
  | 0 => ("CapitalReckoner$Piece", "haircut", "I", true)
  | 1 => ("CapitalReckoner$Piece", "currency", "I", true)
  | 2 => ("CapitalReckoner$Piece", "days", "I", true)
  | 3 => ("CapitalReckoner$Piece", "amount", "I", false)
  | _ => ("CapitalReckoner$Piece", "uses", "I", false)
def tyX1 : Nat → FieldType := fun k => match k with
  | 0 => .int
  | 1 => .int
  | 2 => .int
  | 3 => .int
  | _ => .int
abbrev wsX10 : List Cond := u_ws RX1 TX1 5
theorem nmX1 : ∀ a, a < 5 → ∀ b, b < 5 → a ≠ b → (TX1 a).2.1 ≠ (TX1 b).2.1 := by decide +kernel
theorem tyX1_ok : ∀ k, k < 5 → parseFieldDescriptor (TX1 k).2.2.1 = some (tyX1 k) := by decide +kernel
abbrev cX1_init : ByteArray := prog_3_method_1_code
def yX1_init : MethodName := ⟨RX1, "<init>", "(IIIII)V"⟩
abbrev cX1_valueFor : ByteArray := prog_3_method_2_code
def yX1_valueFor : MethodName := ⟨RX1, "valueFor", "(LCapitalReckoner$Exposure;)I"⟩
def RX2 : String := "CapitalReckoner$Search"
def TX2 : u_T := fun k => match k with
  | 0 => ("CapitalReckoner$Search", "usable", "[I", true)
  | 1 => ("CapitalReckoner$Search", "weightedBySet", "[I", true)
  | 2 => ("CapitalReckoner$Search", "tried", "[I", true)
  | 3 => ("CapitalReckoner$Search", "prices", "[J", true)
  | 4 => ("CapitalReckoner$Search", "least", "[J", true)
  | 5 => ("CapitalReckoner$Search", "takers", "I", false)
  | _ => ("CapitalReckoner$Search", "gifts", "I", false)
def tyX2 : Nat → FieldType := fun k => match k with
  | 0 => .array .int
  | 1 => .array .int
  | 2 => .array .int
  | 3 => .array .long
  | 4 => .array .long
  | 5 => .int
  | _ => .int
abbrev wsX20 : List Cond := u_ws RX2 TX2 7
theorem nmX2 : ∀ a, a < 7 → ∀ b, b < 7 → a ≠ b → (TX2 a).2.1 ≠ (TX2 b).2.1 := by decide +kernel
theorem tyX2_ok : ∀ k, k < 7 → parseFieldDescriptor (TX2 k).2.2.1 = some (tyX2 k) := by decide +kernel
abbrev cX2_init : ByteArray := prog_4_method_1_code
def yX2_init : MethodName := ⟨RX2, "<init>", "()V"⟩
abbrev cX2_begin : ByteArray := prog_4_method_2_code
def yX2_begin : MethodName := ⟨RX2, "begin", "(II)V"⟩
abbrev cX2_setUsable : ByteArray := prog_4_method_3_code
def yX2_setUsable : MethodName := ⟨RX2, "setUsable", "(II)V"⟩
abbrev cX2_setWeighted : ByteArray := prog_4_method_4_code
def yX2_setWeighted : MethodName := ⟨RX2, "setWeighted", "(III)V"⟩
abbrev cX2_weightedWith : ByteArray := prog_4_method_5_code
def yX2_weightedWith : MethodName := ⟨RX2, "weightedWith", "(II)I"⟩
abbrev cX2_digitShift : ByteArray := prog_4_method_6_code
def yX2_digitShift : MethodName := ⟨RX2, "digitShift", "(I)I"⟩
abbrev cX2_digitsOf : ByteArray := prog_4_method_7_code
def yX2_digitsOf : MethodName := ⟨RX2, "digitsOf", "(II)J"⟩
abbrev cX2_findLeast : ByteArray := prog_4_method_8_code
def yX2_findLeast : MethodName := ⟨RX2, "findLeast", "()V"⟩
abbrev cX2_fillPrices : ByteArray := prog_4_method_9_code
def yX2_fillPrices : MethodName := ⟨RX2, "fillPrices", "(I)V"⟩
abbrev cX2_leastOf : ByteArray := prog_4_method_10_code
def yX2_leastOf : MethodName := ⟨RX2, "leastOf", "(II)J"⟩
abbrev cX2_priceOf : ByteArray := prog_4_method_11_code
def yX2_priceOf : MethodName := ⟨RX2, "priceOf", "(I)J"⟩
abbrev cX2_leastKey : ByteArray := prog_4_method_12_code
def yX2_leastKey : MethodName := ⟨RX2, "leastKey", "(I)J"⟩
abbrev cX2_allGifts : ByteArray := prog_4_method_13_code
def yX2_allGifts : MethodName := ⟨RX2, "allGifts", "()I"⟩
abbrev cX2_bestKey : ByteArray := prog_4_method_14_code
def yX2_bestKey : MethodName := ⟨RX2, "bestKey", "()J"⟩
abbrev cX2_bestWhole : ByteArray := prog_4_method_15_code
def yX2_bestWhole : MethodName := ⟨RX2, "bestWhole", "()I"⟩
abbrev cX2_wholeWithout : ByteArray := prog_4_method_16_code
def yX2_wholeWithout : MethodName := ⟨RX2, "wholeWithout", "(I)I"⟩
abbrev cX2_takerOf : ByteArray := prog_4_method_17_code
def yX2_takerOf : MethodName := ⟨RX2, "takerOf", "(I)I"⟩
abbrev cX2_givenSet : ByteArray := prog_4_method_18_code
def yX2_givenSet : MethodName := ⟨RX2, "givenSet", "(I)I"⟩
abbrev cX2_triedWhole : ByteArray := prog_4_method_19_code
def yX2_triedWhole : MethodName := ⟨RX2, "triedWhole", "()I"⟩
abbrev cX2_tryFrom : ByteArray := prog_4_method_20_code
def yX2_tryFrom : MethodName := ⟨RX2, "tryFrom", "(LCapitalReckoner$Search;II)I"⟩
def RX3 : String := "CapitalReckoner"
def TX3 : u_T := fun k => match k with
  | 0 => ("CapitalReckoner", "weights", "[I", true)
  | 1 => ("CapitalReckoner", "plainWeights", "[I", true)
  | 2 => ("CapitalReckoner", "book", "[LCapitalReckoner$Exposure;", true)
  | 3 => ("CapitalReckoner", "collateral", "[LCapitalReckoner$Piece;", true)
  | 4 => ("CapitalReckoner", "search", "LCapitalReckoner$Search;", true)
  | 5 => ("CapitalReckoner", "exposureCount", "I", false)
  | 6 => ("CapitalReckoner", "pieceCount", "I", false)
  | 7 => ("CapitalReckoner", "floor", "I", false)
  | _ => ("CapitalReckoner", "capital", "I", false)
def tyX3 : Nat → FieldType := fun k => match k with
  | 0 => .array .int
  | 1 => .array .int
  | 2 => .array (.object "CapitalReckoner$Exposure")
  | 3 => .array (.object "CapitalReckoner$Piece")
  | 4 => .object "CapitalReckoner$Search"
  | 5 => .int
  | 6 => .int
  | 7 => .int
  | _ => .int
abbrev wsX30 : List Cond := u_ws RX3 TX3 9
theorem nmX3 : ∀ a, a < 9 → ∀ b, b < 9 → a ≠ b → (TX3 a).2.1 ≠ (TX3 b).2.1 := by decide +kernel
theorem tyX3_ok : ∀ k, k < 9 → parseFieldDescriptor (TX3 k).2.2.1 = some (tyX3 k) := by decide +kernel
abbrev cX3_init : ByteArray := prog_1_method_1_code
def yX3_init : MethodName := ⟨RX3, "<init>", "()V"⟩
abbrev cX3_setWeights : ByteArray := prog_1_method_2_code
def yX3_setWeights : MethodName := ⟨RX3, "setWeights", "(III)I"⟩
abbrev cX3_setFloor : ByteArray := prog_1_method_3_code
def yX3_setFloor : MethodName := ⟨RX3, "setFloor", "(I)I"⟩
abbrev cX3_setCapital : ByteArray := prog_1_method_4_code
def yX3_setCapital : MethodName := ⟨RX3, "setCapital", "(I)I"⟩
abbrev cX3_addExposure : ByteArray := prog_1_method_5_code
def yX3_addExposure : MethodName := ⟨RX3, "addExposure", "(IIIIII)I"⟩
abbrev cX3_draw : ByteArray := prog_1_method_6_code
def yX3_draw : MethodName := ⟨RX3, "draw", "(II)I"⟩
abbrev cX3_setClass : ByteArray := prog_1_method_7_code
def yX3_setClass : MethodName := ⟨RX3, "setClass", "(II)I"⟩
abbrev cX3_guarantee : ByteArray := prog_1_method_8_code
def yX3_guarantee : MethodName := ⟨RX3, "guarantee", "(III)I"⟩
abbrev cX3_exposures : ByteArray := prog_1_method_9_code
def yX3_exposures : MethodName := ⟨RX3, "exposures", "()I"⟩
abbrev cX3_amount : ByteArray := prog_1_method_10_code
def yX3_amount : MethodName := ⟨RX3, "amount", "(I)I"⟩
abbrev cX3_addPiece : ByteArray := prog_1_method_11_code
def yX3_addPiece : MethodName := ⟨RX3, "addPiece", "(IIIII)I"⟩
abbrev cX3_setPiece : ByteArray := prog_1_method_12_code
def yX3_setPiece : MethodName := ⟨RX3, "setPiece", "(III)I"⟩
abbrev cX3_pieces : ByteArray := prog_1_method_13_code
def yX3_pieces : MethodName := ⟨RX3, "pieces", "()I"⟩
abbrev cX3_value : ByteArray := prog_1_method_14_code
def yX3_value : MethodName := ⟨RX3, "value", "(II)I"⟩
abbrev cX3_givenTo : ByteArray := prog_1_method_15_code
def yX3_givenTo : MethodName := ⟨RX3, "givenTo", "(I)I"⟩
abbrev cX3_bare : ByteArray := prog_1_method_16_code
def yX3_bare : MethodName := ⟨RX3, "bare", "(I)I"⟩
abbrev cX3_weighted : ByteArray := prog_1_method_17_code
def yX3_weighted : MethodName := ⟨RX3, "weighted", "(I)I"⟩
abbrev cX3_whole : ByteArray := prog_1_method_18_code
def yX3_whole : MethodName := ⟨RX3, "whole", "()I"⟩
abbrev cX3_wholeByTrying : ByteArray := prog_1_method_19_code
def yX3_wholeByTrying : MethodName := ⟨RX3, "wholeByTrying", "()I"⟩
abbrev cX3_worth : ByteArray := prog_1_method_20_code
def yX3_worth : MethodName := ⟨RX3, "worth", "(I)I"⟩
abbrev cX3_plain : ByteArray := prog_1_method_21_code
def yX3_plain : MethodName := ⟨RX3, "plain", "()I"⟩
abbrev cX3_required : ByteArray := prog_1_method_22_code
def yX3_required : MethodName := ⟨RX3, "required", "()I"⟩
abbrev cX3_partyBare : ByteArray := prog_1_method_23_code
def yX3_partyBare : MethodName := ⟨RX3, "partyBare", "(I)I"⟩
abbrev cX3_tooLarge : ByteArray := prog_1_method_24_code
def yX3_tooLarge : MethodName := ⟨RX3, "tooLarge", "()I"⟩
abbrev cX3_isWithin : ByteArray := prog_1_method_25_code
def yX3_isWithin : MethodName := ⟨RX3, "isWithin", "(III)Z"⟩
abbrev cX3_isClass : ByteArray := prog_1_method_26_code
def yX3_isClass : MethodName := ⟨RX3, "isClass", "(I)Z"⟩
abbrev cX3_isParty : ByteArray := prog_1_method_27_code
def yX3_isParty : MethodName := ⟨RX3, "isParty", "(I)Z"⟩
abbrev cX3_isCurrency : ByteArray := prog_1_method_28_code
def yX3_isCurrency : MethodName := ⟨RX3, "isCurrency", "(I)Z"⟩
abbrev cX3_isDays : ByteArray := prog_1_method_29_code
def yX3_isDays : MethodName := ⟨RX3, "isDays", "(I)Z"⟩
abbrev cX3_isPart : ByteArray := prog_1_method_30_code
def yX3_isPart : MethodName := ⟨RX3, "isPart", "(I)Z"⟩
abbrev cX3_isPieceSum : ByteArray := prog_1_method_31_code
def yX3_isPieceSum : MethodName := ⟨RX3, "isPieceSum", "(I)Z"⟩
abbrev cX3_isUses : ByteArray := prog_1_method_32_code
def yX3_isUses : MethodName := ⟨RX3, "isUses", "(I)Z"⟩
abbrev cX3_has : ByteArray := prog_1_method_33_code
def yX3_has : MethodName := ⟨RX3, "has", "(II)Z"⟩
abbrev cX3_at : ByteArray := prog_1_method_34_code
def yX3_at : MethodName := ⟨RX3, "at", "([II)I"⟩
abbrev cX3_put : ByteArray := prog_1_method_35_code
def yX3_put : MethodName := ⟨RX3, "put", "([III)V"⟩
abbrev cX3_percentOf : ByteArray := prog_1_method_36_code
def yX3_percentOf : MethodName := ⟨RX3, "percentOf", "(II)I"⟩
abbrev cX3_exposureAt : ByteArray := prog_1_method_37_code
def yX3_exposureAt : MethodName := ⟨RX3, "exposureAt", "(I)LCapitalReckoner$Exposure;"⟩
abbrev cX3_pieceAt : ByteArray := prog_1_method_38_code
def yX3_pieceAt : MethodName := ⟨RX3, "pieceAt", "(I)LCapitalReckoner$Piece;"⟩
abbrev cX3_bareWith : ByteArray := prog_1_method_39_code
def yX3_bareWith : MethodName := ⟨RX3, "bareWith", "(LCapitalReckoner$Exposure;I)I"⟩
abbrev cX3_weightedOf : ByteArray := prog_1_method_40_code
def yX3_weightedOf : MethodName := ⟨RX3, "weightedOf", "(LCapitalReckoner$Exposure;I)I"⟩
abbrev cX3_bareOfParty : ByteArray := prog_1_method_41_code
def yX3_bareOfParty : MethodName := ⟨RX3, "bareOfParty", "(I)I"⟩
abbrev cX3_findBest : ByteArray := prog_1_method_42_code
def yX3_findBest : MethodName := ⟨RX3, "findBest", "()V"⟩
abbrev cX3_fillSearch : ByteArray := prog_1_method_43_code
def yX3_fillSearch : MethodName := ⟨RX3, "fillSearch", "()V"⟩
abbrev cX3_usableFor : ByteArray := prog_1_method_44_code
def yX3_usableFor : MethodName := ⟨RX3, "usableFor", "(I)I"⟩
def RX4 : String := "CapitalReckonerModel"
def TX4 : u_T := fun k => match k with
  | 0 => ("CapitalReckonerModel", "weight", "[I", true)
  | 1 => ("CapitalReckonerModel", "simple", "[I", true)
  | 2 => ("CapitalReckonerModel", "floor", "I", false)
  | 3 => ("CapitalReckonerModel", "capital", "I", false)
  | 4 => ("CapitalReckonerModel", "exposures", "I", false)
  | 5 => ("CapitalReckonerModel", "kind", "[I", true)
  | 6 => ("CapitalReckonerModel", "party", "[I", true)
  | 7 => ("CapitalReckonerModel", "drawn", "[I", true)
  | 8 => ("CapitalReckonerModel", "promised", "[I", true)
  | 9 => ("CapitalReckonerModel", "currency", "[I", true)
  | 10 => ("CapitalReckonerModel", "days", "[I", true)
  | 11 => ("CapitalReckonerModel", "better", "[I", true)
  | 12 => ("CapitalReckonerModel", "sure", "[I", true)
  | 13 => ("CapitalReckonerModel", "pieces", "I", false)
  | 14 => ("CapitalReckonerModel", "size", "[I", true)
  | 15 => ("CapitalReckonerModel", "cut", "[I", true)
  | 16 => ("CapitalReckonerModel", "coin", "[I", true)
  | 17 => ("CapitalReckonerModel", "left", "[I", true)
  | 18 => ("CapitalReckonerModel", "uses", "[I", true)
  | 19 => ("CapitalReckonerModel", "table", "[I", true)
  | 20 => ("CapitalReckonerModel", "may", "[I", true)
  | 21 => ("CapitalReckonerModel", "least", "[I", true)
  | _ => ("CapitalReckonerModel", "thrown", "I", false)
def tyX4 : Nat → FieldType := fun k => match k with
  | 0 => .array .int
  | 1 => .array .int
  | 2 => .int
  | 3 => .int
  | 4 => .int
  | 5 => .array .int
  | 6 => .array .int
  | 7 => .array .int
  | 8 => .array .int
  | 9 => .array .int
  | 10 => .array .int
  | 11 => .array .int
  | 12 => .array .int
  | 13 => .int
  | 14 => .array .int
  | 15 => .array .int
  | 16 => .array .int
  | 17 => .array .int
  | 18 => .array .int
  | 19 => .array .int
  | 20 => .array .int
  | 21 => .array .int
  | _ => .int
abbrev wsX40 : List Cond := u_ws RX4 TX4 23
theorem nmX4 : ∀ a, a < 23 → ∀ b, b < 23 → a ≠ b → (TX4 a).2.1 ≠ (TX4 b).2.1 := by decide +kernel
theorem tyX4_ok : ∀ k, k < 23 → parseFieldDescriptor (TX4 k).2.2.1 = some (tyX4 k) := by decide +kernel
abbrev cX4_init : ByteArray := prog_6_method_1_code
def yX4_init : MethodName := ⟨RX4, "<init>", "()V"⟩
abbrev cX4_thrown : ByteArray := prog_6_method_2_code
def yX4_thrown : MethodName := ⟨RX4, "thrown", "()I"⟩
abbrev cX4_isIn : ByteArray := prog_6_method_3_code
def yX4_isIn : MethodName := ⟨RX4, "isIn", "(III)Z"⟩
abbrev cX4_isFour : ByteArray := prog_6_method_4_code
def yX4_isFour : MethodName := ⟨RX4, "isFour", "(I)Z"⟩
abbrev cX4_isExposure : ByteArray := prog_6_method_5_code
def yX4_isExposure : MethodName := ⟨RX4, "isExposure", "(I)Z"⟩
abbrev cX4_isPiece : ByteArray := prog_6_method_6_code
def yX4_isPiece : MethodName := ⟨RX4, "isPiece", "(I)Z"⟩
abbrev cX4_percent : ByteArray := prog_6_method_7_code
def yX4_percent : MethodName := ⟨RX4, "percent", "(II)I"⟩
abbrev cX4_setWeights : ByteArray := prog_6_method_8_code
def yX4_setWeights : MethodName := ⟨RX4, "setWeights", "(III)I"⟩
abbrev cX4_setFloor : ByteArray := prog_6_method_9_code
def yX4_setFloor : MethodName := ⟨RX4, "setFloor", "(I)I"⟩
abbrev cX4_setCapital : ByteArray := prog_6_method_10_code
def yX4_setCapital : MethodName := ⟨RX4, "setCapital", "(I)I"⟩
abbrev cX4_isSum : ByteArray := prog_6_method_11_code
def yX4_isSum : MethodName := ⟨RX4, "isSum", "(I)Z"⟩
abbrev cX4_addExposure : ByteArray := prog_6_method_12_code
def yX4_addExposure : MethodName := ⟨RX4, "addExposure", "(IIIIII)I"⟩
abbrev cX4_draw : ByteArray := prog_6_method_13_code
def yX4_draw : MethodName := ⟨RX4, "draw", "(II)I"⟩
abbrev cX4_setClass : ByteArray := prog_6_method_14_code
def yX4_setClass : MethodName := ⟨RX4, "setClass", "(II)I"⟩
abbrev cX4_guarantee : ByteArray := prog_6_method_15_code
def yX4_guarantee : MethodName := ⟨RX4, "guarantee", "(III)I"⟩
abbrev cX4_exposures : ByteArray := prog_6_method_16_code
def yX4_exposures : MethodName := ⟨RX4, "exposures", "()I"⟩
abbrev cX4_amounts : ByteArray := prog_6_method_17_code
def yX4_amounts : MethodName := ⟨RX4, "amounts", "(I)I"⟩
abbrev cX4_amount : ByteArray := prog_6_method_18_code
def yX4_amount : MethodName := ⟨RX4, "amount", "(I)I"⟩
abbrev cX4_addPiece : ByteArray := prog_6_method_19_code
def yX4_addPiece : MethodName := ⟨RX4, "addPiece", "(IIIII)I"⟩
abbrev cX4_setPiece : ByteArray := prog_6_method_20_code
def yX4_setPiece : MethodName := ⟨RX4, "setPiece", "(III)I"⟩
abbrev cX4_pieces : ByteArray := prog_6_method_21_code
def yX4_pieces : MethodName := ⟨RX4, "pieces", "()I"⟩
abbrev cX4_valued : ByteArray := prog_6_method_22_code
def yX4_valued : MethodName := ⟨RX4, "valued", "(II)I"⟩
abbrev cX4_value : ByteArray := prog_6_method_23_code
def yX4_value : MethodName := ⟨RX4, "value", "(II)I"⟩
abbrev cX4_bared : ByteArray := prog_6_method_24_code
def yX4_bared : MethodName := ⟨RX4, "bared", "(II)I"⟩
abbrev cX4_weighed : ByteArray := prog_6_method_25_code
def yX4_weighed : MethodName := ⟨RX4, "weighed", "(II)I"⟩
abbrev cX4_lays : ByteArray := prog_6_method_26_code
def yX4_lays : MethodName := ⟨RX4, "lays", "()V"⟩
abbrev cX4_fits : ByteArray := prog_6_method_27_code
def yX4_fits : MethodName := ⟨RX4, "fits", "(II)Z"⟩
abbrev cX4_leastWhole : ByteArray := prog_6_method_28_code
def yX4_leastWhole : MethodName := ⟨RX4, "leastWhole", "()I"⟩
abbrev cX4_bests : ByteArray := prog_6_method_29_code
def yX4_bests : MethodName := ⟨RX4, "bests", "()I"⟩
abbrev cX4_setOf : ByteArray := prog_6_method_30_code
def yX4_setOf : MethodName := ⟨RX4, "setOf", "(I)I"⟩
abbrev cX4_givenTo : ByteArray := prog_6_method_31_code
def yX4_givenTo : MethodName := ⟨RX4, "givenTo", "(I)I"⟩
abbrev cX4_bare : ByteArray := prog_6_method_32_code
def yX4_bare : MethodName := ⟨RX4, "bare", "(I)I"⟩
abbrev cX4_weighted : ByteArray := prog_6_method_33_code
def yX4_weighted : MethodName := ⟨RX4, "weighted", "(I)I"⟩
abbrev cX4_wholes : ByteArray := prog_6_method_34_code
def yX4_wholes : MethodName := ⟨RX4, "wholes", "()I"⟩
abbrev cX4_whole : ByteArray := prog_6_method_35_code
def yX4_whole : MethodName := ⟨RX4, "whole", "()I"⟩
abbrev cX4_wholeByTrying : ByteArray := prog_6_method_36_code
def yX4_wholeByTrying : MethodName := ⟨RX4, "wholeByTrying", "()I"⟩
abbrev cX4_worth : ByteArray := prog_6_method_37_code
def yX4_worth : MethodName := ⟨RX4, "worth", "(I)I"⟩
abbrev cX4_plains : ByteArray := prog_6_method_38_code
def yX4_plains : MethodName := ⟨RX4, "plains", "()I"⟩
abbrev cX4_plain : ByteArray := prog_6_method_39_code
def yX4_plain : MethodName := ⟨RX4, "plain", "()I"⟩
abbrev cX4_required : ByteArray := prog_6_method_40_code
def yX4_required : MethodName := ⟨RX4, "required", "()I"⟩
abbrev cX4_baredOf : ByteArray := prog_6_method_41_code
def yX4_baredOf : MethodName := ⟨RX4, "baredOf", "(I)I"⟩
abbrev cX4_partyBare : ByteArray := prog_6_method_42_code
def yX4_partyBare : MethodName := ⟨RX4, "partyBare", "(I)I"⟩
abbrev cX4_tooLarge : ByteArray := prog_6_method_43_code
def yX4_tooLarge : MethodName := ⟨RX4, "tooLarge", "()I"⟩
def RJ9 : String := "java/lang/Math"
def TJ9 : u_T := fun k => match k with
  | _ => ("", "", "", false)
def tyJ9 : Nat → FieldType := fun k => match k with
  | _ => .int
abbrev wsJ90 : List Cond := u_ws RJ9 TJ9 0
theorem nmJ9 : ∀ a, a < 0 → ∀ b, b < 0 → a ≠ b → (TJ9 a).2.1 ≠ (TJ9 b).2.1 := by decide +kernel
theorem tyJ9_ok : ∀ k, k < 0 → parseFieldDescriptor (TJ9 k).2.2.1 = some (tyJ9 k) := by decide +kernel
abbrev cJ9_max_7cf53 : ByteArray := prog_11_method_65_code
def yJ9_max_7cf53 : MethodName := ⟨RJ9, "max", "(II)I"⟩
abbrev cJ9_min_7cf53 : ByteArray := prog_11_method_69_code
def yJ9_min_7cf53 : MethodName := ⟨RJ9, "min", "(II)I"⟩
abbrev cJ9_min_f86c9 : ByteArray := prog_11_method_70_code
def yJ9_min_f86c9 : MethodName := ⟨RJ9, "min", "(JJ)J"⟩
def RJ0 : String := "java/lang/String"
def TJ0 : u_T := fun k => match k with
  | _ => ("", "", "", false)
def tyJ0 : Nat → FieldType := fun k => match k with
  | _ => .int
abbrev wsJ00 : List Cond := u_ws RJ0 TJ0 0
theorem nmJ0 : ∀ a, a < 0 → ∀ b, b < 0 → a ≠ b → (TJ0 a).2.1 ≠ (TJ0 b).2.1 := by decide +kernel
theorem tyJ0_ok : ∀ k, k < 0 → parseFieldDescriptor (TJ0 k).2.2.1 = some (tyJ0 k) := by decide +kernel
def RL : String := "CapitalReckonerLaw"
abbrev cL_setWeights : ByteArray := method_3_code
def yL_setWeights : MethodName := ⟨RL, "setWeights", "(LCapitalReckoner;III[J)I"⟩
abbrev cL_setFloor : ByteArray := method_4_code
def yL_setFloor : MethodName := ⟨RL, "setFloor", "(LCapitalReckoner;I[J)I"⟩
abbrev cL_setCapital : ByteArray := method_5_code
def yL_setCapital : MethodName := ⟨RL, "setCapital", "(LCapitalReckoner;I[J)I"⟩
abbrev cL_addExposure : ByteArray := method_6_code
def yL_addExposure : MethodName := ⟨RL, "addExposure", "(LCapitalReckoner;IIIIII[J)I"⟩
abbrev cL_draw : ByteArray := method_7_code
def yL_draw : MethodName := ⟨RL, "draw", "(LCapitalReckoner;II[J)I"⟩
abbrev cL_setClass : ByteArray := method_8_code
def yL_setClass : MethodName := ⟨RL, "setClass", "(LCapitalReckoner;II[J)I"⟩
abbrev cL_guarantee : ByteArray := method_9_code
def yL_guarantee : MethodName := ⟨RL, "guarantee", "(LCapitalReckoner;III[J)I"⟩
abbrev cL_amount : ByteArray := method_10_code
def yL_amount : MethodName := ⟨RL, "amount", "(LCapitalReckoner;I[J)I"⟩
abbrev cL_addPiece : ByteArray := method_11_code
def yL_addPiece : MethodName := ⟨RL, "addPiece", "(LCapitalReckoner;IIIII[J)I"⟩
abbrev cL_setPiece : ByteArray := method_12_code
def yL_setPiece : MethodName := ⟨RL, "setPiece", "(LCapitalReckoner;III[J)I"⟩
abbrev cL_value : ByteArray := method_13_code
def yL_value : MethodName := ⟨RL, "value", "(LCapitalReckoner;II[J)I"⟩
abbrev cL_givenTo : ByteArray := method_14_code
def yL_givenTo : MethodName := ⟨RL, "givenTo", "(LCapitalReckoner;I[J)I"⟩
abbrev cL_bare : ByteArray := method_15_code
def yL_bare : MethodName := ⟨RL, "bare", "(LCapitalReckoner;I[J)I"⟩
abbrev cL_weighted : ByteArray := method_16_code
def yL_weighted : MethodName := ⟨RL, "weighted", "(LCapitalReckoner;I[J)I"⟩
abbrev cL_worth : ByteArray := method_17_code
def yL_worth : MethodName := ⟨RL, "worth", "(LCapitalReckoner;I[J)I"⟩
abbrev cL_partyBare : ByteArray := method_18_code
def yL_partyBare : MethodName := ⟨RL, "partyBare", "(LCapitalReckoner;I[J)I"⟩
abbrev cL_law : ByteArray := code
def yL_law : MethodName := ⟨RL, "law", "([I)Z"⟩
def wsX0_init : List Cond := .code yX0_init cX0_init 7 none :: ([.methodLink RX0 3 objectInit, .instanceMethod objectInit, .code objectInit ⟨#[0xb1]⟩ 1 none, .fieldLink RX0 9 "CapitalReckoner$Exposure" "kind" "I", .fieldLink RX0 15 "CapitalReckoner$Exposure" "party" "I", .fieldLink RX0 18 "CapitalReckoner$Exposure" "drawn" "I", .fieldLink RX0 21 "CapitalReckoner$Exposure" "promised" "I", .fieldLink RX0 24 "CapitalReckoner$Exposure" "currency" "I", .fieldLink RX0 27 "CapitalReckoner$Exposure" "days" "I", .fieldLink RX0 30 "CapitalReckoner$Exposure" "guaranteeKind" "I", .fieldLink RX0 33 "CapitalReckoner$Exposure" "guaranteeSum" "I"] ++ wsX00)
def wsX3_percentOf : List Cond := .code yX3_percentOf cX3_percentOf 2 (some .int) :: ([.constantLong RX3 218 (100)])
def wsX0_amountNow : List Cond := .code yX0_amountNow cX0_amountNow 1 (some .int) :: ([.fieldLink RX0 18 "CapitalReckoner$Exposure" "drawn" "I", .fieldLink RX0 21 "CapitalReckoner$Exposure" "promised" "I", .static yX3_percentOf, .initialized RX3, .code yX3_percentOf cX3_percentOf 2 (some .int), .constantLong RX3 218 (100)] ++ wsX00)
def wsX1_init : List Cond := .code yX1_init cX1_init 6 none :: ([.methodLink RX1 3 objectInit, .instanceMethod objectInit, .code objectInit ⟨#[0xb1]⟩ 1 none, .fieldLink RX1 9 "CapitalReckoner$Piece" "amount" "I", .fieldLink RX1 15 "CapitalReckoner$Piece" "haircut" "I", .fieldLink RX1 18 "CapitalReckoner$Piece" "currency" "I", .fieldLink RX1 21 "CapitalReckoner$Piece" "days" "I", .fieldLink RX1 24 "CapitalReckoner$Piece" "uses" "I"] ++ wsX10)
def wsX1_valueFor : List Cond := .code yX1_valueFor cX1_valueFor 3 (some .int) :: ([.fieldLink RX1 9 "CapitalReckoner$Piece" "amount" "I", .fieldLink RX1 15 "CapitalReckoner$Piece" "haircut" "I", .fieldLink RX1 18 "CapitalReckoner$Piece" "currency" "I", .fieldLink RX1 21 "CapitalReckoner$Piece" "days" "I", .static yX3_percentOf, .initialized RX3, .code yX3_percentOf cX3_percentOf 2 (some .int), .constantLong RX3 218 (100)] ++ wsX10 ++ wsX00)
def wsX2_init : List Cond := .code yX2_init cX2_init 1 none :: ([.methodLink RX2 5 objectInit, .instanceMethod objectInit, .code objectInit ⟨#[0xb1]⟩ 1 none, .arrayClass .int, .fieldLink RX2 11 "CapitalReckoner$Search" "usable" "[I", .fieldLink RX2 15 "CapitalReckoner$Search" "weightedBySet" "[I", .fieldLink RX2 18 "CapitalReckoner$Search" "tried" "[I", .arrayClass .long, .fieldLink RX2 21 "CapitalReckoner$Search" "prices" "[J", .fieldLink RX2 25 "CapitalReckoner$Search" "least" "[J"] ++ wsX20)
def wsX2_begin : List Cond := .code yX2_begin cX2_begin 3 none :: ([.methodLink RX2 28 Lib.Math.min.name, .static Lib.Math.min.name, .initialized "java/lang/Math", .code Lib.Math.min.name Lib.Math.min.code 2 (some .int), .fieldLink RX2 34 "CapitalReckoner$Search" "takers" "I", .fieldLink RX2 38 "CapitalReckoner$Search" "gifts" "I"] ++ wsX20)
def wsX3_put : List Cond := .code yX3_put cX3_put 3 none :: ([])
def wsX2_setUsable : List Cond := .code yX2_setUsable cX2_setUsable 3 none :: ([.fieldLink RX2 11 "CapitalReckoner$Search" "usable" "[I", .static yX3_put, .initialized RX3, .code yX3_put cX3_put 3 none] ++ wsX20)
def wsX2_setWeighted : List Cond := .code yX2_setWeighted cX2_setWeighted 4 none :: ([.fieldLink RX2 15 "CapitalReckoner$Search" "weightedBySet" "[I", .static yX3_put, .initialized RX3, .code yX3_put cX3_put 3 none] ++ wsX20)
def wsX3_at : List Cond := .code yX3_at cX3_at 2 (some .int) :: ([])
def wsX2_weightedWith : List Cond := .code yX2_weightedWith cX2_weightedWith 3 (some .int) :: ([.fieldLink RX2 15 "CapitalReckoner$Search" "weightedBySet" "[I", .static yX3_at, .initialized RX3, .code yX3_at cX3_at 2 (some .int)] ++ wsX20)
def wsX2_digitShift : List Cond := .code yX2_digitShift cX2_digitShift 1 (some .int) :: ([])
def wsX3_has : List Cond := .code yX3_has cX3_has 2 (some .boolean) :: ([])
def wsX2_digitsOf : List Cond := .code yX2_digitsOf cX2_digitsOf 5 (some .long) :: ([.static yX3_has, .initialized RX3, .code yX3_has cX3_has 2 (some .boolean), .methodLink RX2 53 yX2_digitShift, .static yX2_digitShift, .initialized RX2, .code yX2_digitShift cX2_digitShift 1 (some .int)])
def wsX2_fillPrices : List Cond := .code yX2_fillPrices cX2_fillPrices 3 none :: ([.fieldLink RX2 21 "CapitalReckoner$Search" "prices" "[J", .methodLink RX2 68 yX2_weightedWith, .instanceMethod yX2_weightedWith, .selects RX2 yX2_weightedWith yX2_weightedWith, .initialized RX2, .code yX2_weightedWith cX2_weightedWith 3 (some .int), .fieldLink RX2 15 "CapitalReckoner$Search" "weightedBySet" "[I", .static yX3_at, .initialized RX3, .code yX3_at cX3_at 2 (some .int), .methodLink RX2 57 yX2_digitsOf, .static yX2_digitsOf, .code yX2_digitsOf cX2_digitsOf 5 (some .long), .static yX3_has, .code yX3_has cX3_has 2 (some .boolean), .methodLink RX2 53 yX2_digitShift, .static yX2_digitShift, .code yX2_digitShift cX2_digitShift 1 (some .int)] ++ wsX20)
def wsX2_priceOf : List Cond := .code yX2_priceOf cX2_priceOf 2 (some .long) :: ([.fieldLink RX2 21 "CapitalReckoner$Search" "prices" "[J"] ++ wsX20)
def wsX2_leastKey : List Cond := .code yX2_leastKey cX2_leastKey 2 (some .long) :: ([.fieldLink RX2 25 "CapitalReckoner$Search" "least" "[J"] ++ wsX20)
def wsX2_leastOf : List Cond := .code yX2_leastOf cX2_leastOf 6 (some .long) :: ([.methodLink RX2 78 Lib.MathLoose.min_long.x, .static Lib.MathLoose.min_long.x, .initialized "java/lang/Math", .code Lib.MathLoose.min_long.x Lib.MathLoose.min_long.code 4 (some .long), .methodLink RX2 71 yX2_priceOf, .instanceMethod yX2_priceOf, .selects RX2 yX2_priceOf yX2_priceOf, .initialized RX2, .code yX2_priceOf cX2_priceOf 2 (some .long), .fieldLink RX2 21 "CapitalReckoner$Search" "prices" "[J", .methodLink RX2 75 yX2_leastKey, .instanceMethod yX2_leastKey, .selects RX2 yX2_leastKey yX2_leastKey, .code yX2_leastKey cX2_leastKey 2 (some .long), .fieldLink RX2 25 "CapitalReckoner$Search" "least" "[J"] ++ wsX20)
def wsX2_findLeast_r1 : List Cond := [Cond.fieldLink RX2 25 "CapitalReckoner$Search" "least" "[J", Cond.fieldLink RX2 34 "CapitalReckoner$Search" "takers" "I", Cond.fieldLink RX2 11 "CapitalReckoner$Search" "usable" "[I", Cond.methodLink RX2 57 yX2_digitsOf, Cond.static yX2_digitsOf, Cond.initialized RX2, Cond.code yX2_digitsOf cX2_digitsOf 5 (some .long), Cond.static yX3_has, Cond.initialized RX3, Cond.code yX3_has cX3_has 2 (some .boolean), Cond.methodLink RX2 53 yX2_digitShift, Cond.static yX2_digitShift, Cond.code yX2_digitShift cX2_digitShift 1 (some .int), Cond.methodLink RX2 61 yX2_fillPrices, Cond.instanceMethod yX2_fillPrices, Cond.selects RX2 yX2_fillPrices yX2_fillPrices, Cond.code yX2_fillPrices cX2_fillPrices 3 none, Cond.fieldLink RX2 21 "CapitalReckoner$Search" "prices" "[J", Cond.methodLink RX2 68 yX2_weightedWith, Cond.instanceMethod yX2_weightedWith, Cond.selects RX2 yX2_weightedWith yX2_weightedWith, Cond.code yX2_weightedWith cX2_weightedWith 3 (some .int), Cond.fieldLink RX2 15 "CapitalReckoner$Search" "weightedBySet" "[I", Cond.static yX3_at]
def wsX2_findLeast_r2 : List Cond := [Cond.code yX3_at cX3_at 2 (some .int), Cond.methodLink RX2 65 yX2_leastOf, Cond.instanceMethod yX2_leastOf, Cond.selects RX2 yX2_leastOf yX2_leastOf, Cond.code yX2_leastOf cX2_leastOf 6 (some .long), Cond.methodLink RX2 78 Lib.MathLoose.min_long.x, Cond.static Lib.MathLoose.min_long.x, Cond.initialized "java/lang/Math", Cond.code Lib.MathLoose.min_long.x Lib.MathLoose.min_long.code 4 (some .long), Cond.methodLink RX2 71 yX2_priceOf, Cond.instanceMethod yX2_priceOf, Cond.selects RX2 yX2_priceOf yX2_priceOf, Cond.code yX2_priceOf cX2_priceOf 2 (some .long), Cond.methodLink RX2 75 yX2_leastKey, Cond.instanceMethod yX2_leastKey, Cond.selects RX2 yX2_leastKey yX2_leastKey, Cond.code yX2_leastKey cX2_leastKey 2 (some .long)]
def wsX2_findLeast : List Cond := .code yX2_findLeast cX2_findLeast 3 none :: ((wsX2_findLeast_r1 ++ wsX2_findLeast_r2) ++ wsX20)
def wsX2_allGifts : List Cond := .code yX2_allGifts cX2_allGifts 1 (some .int) :: ([.fieldLink RX2 38 "CapitalReckoner$Search" "gifts" "I"] ++ wsX20)
def wsX2_bestKey : List Cond := .code yX2_bestKey cX2_bestKey 1 (some .long) :: ([.methodLink RX2 81 yX2_allGifts, .instanceMethod yX2_allGifts, .selects RX2 yX2_allGifts yX2_allGifts, .initialized RX2, .code yX2_allGifts cX2_allGifts 1 (some .int), .fieldLink RX2 38 "CapitalReckoner$Search" "gifts" "I", .methodLink RX2 75 yX2_leastKey, .instanceMethod yX2_leastKey, .selects RX2 yX2_leastKey yX2_leastKey, .code yX2_leastKey cX2_leastKey 2 (some .long), .fieldLink RX2 25 "CapitalReckoner$Search" "least" "[J"] ++ wsX20)
def wsX2_bestWhole : List Cond := .code yX2_bestWhole cX2_bestWhole 1 (some .int) :: ([.methodLink RX2 85 yX2_bestKey, .instanceMethod yX2_bestKey, .selects RX2 yX2_bestKey yX2_bestKey, .initialized RX2, .code yX2_bestKey cX2_bestKey 1 (some .long), .methodLink RX2 81 yX2_allGifts, .instanceMethod yX2_allGifts, .selects RX2 yX2_allGifts yX2_allGifts, .code yX2_allGifts cX2_allGifts 1 (some .int), .fieldLink RX2 38 "CapitalReckoner$Search" "gifts" "I", .methodLink RX2 75 yX2_leastKey, .instanceMethod yX2_leastKey, .selects RX2 yX2_leastKey yX2_leastKey, .code yX2_leastKey cX2_leastKey 2 (some .long), .fieldLink RX2 25 "CapitalReckoner$Search" "least" "[J"] ++ wsX20)
def wsX2_wholeWithout : List Cond := .code yX2_wholeWithout cX2_wholeWithout 2 (some .int) :: ([.methodLink RX2 81 yX2_allGifts, .instanceMethod yX2_allGifts, .selects RX2 yX2_allGifts yX2_allGifts, .initialized RX2, .code yX2_allGifts cX2_allGifts 1 (some .int), .fieldLink RX2 38 "CapitalReckoner$Search" "gifts" "I", .methodLink RX2 75 yX2_leastKey, .instanceMethod yX2_leastKey, .selects RX2 yX2_leastKey yX2_leastKey, .code yX2_leastKey cX2_leastKey 2 (some .long), .fieldLink RX2 25 "CapitalReckoner$Search" "least" "[J"] ++ wsX20)
def wsX2_takerOf : List Cond := .code yX2_takerOf cX2_takerOf 3 (some .int) :: ([.methodLink RX2 85 yX2_bestKey, .instanceMethod yX2_bestKey, .selects RX2 yX2_bestKey yX2_bestKey, .initialized RX2, .code yX2_bestKey cX2_bestKey 1 (some .long), .methodLink RX2 81 yX2_allGifts, .instanceMethod yX2_allGifts, .selects RX2 yX2_allGifts yX2_allGifts, .code yX2_allGifts cX2_allGifts 1 (some .int), .fieldLink RX2 38 "CapitalReckoner$Search" "gifts" "I", .methodLink RX2 75 yX2_leastKey, .instanceMethod yX2_leastKey, .selects RX2 yX2_leastKey yX2_leastKey, .code yX2_leastKey cX2_leastKey 2 (some .long), .fieldLink RX2 25 "CapitalReckoner$Search" "least" "[J", .methodLink RX2 53 yX2_digitShift, .static yX2_digitShift, .code yX2_digitShift cX2_digitShift 1 (some .int)] ++ wsX20)
def wsX2_givenSet : List Cond := .code yX2_givenSet cX2_givenSet 4 (some .int) :: ([.fieldLink RX2 38 "CapitalReckoner$Search" "gifts" "I", .methodLink RX2 89 yX2_takerOf, .instanceMethod yX2_takerOf, .selects RX2 yX2_takerOf yX2_takerOf, .initialized RX2, .code yX2_takerOf cX2_takerOf 3 (some .int), .methodLink RX2 85 yX2_bestKey, .instanceMethod yX2_bestKey, .selects RX2 yX2_bestKey yX2_bestKey, .code yX2_bestKey cX2_bestKey 1 (some .long), .methodLink RX2 81 yX2_allGifts, .instanceMethod yX2_allGifts, .selects RX2 yX2_allGifts yX2_allGifts, .code yX2_allGifts cX2_allGifts 1 (some .int), .methodLink RX2 75 yX2_leastKey, .instanceMethod yX2_leastKey, .selects RX2 yX2_leastKey yX2_leastKey, .code yX2_leastKey cX2_leastKey 2 (some .long), .fieldLink RX2 25 "CapitalReckoner$Search" "least" "[J", .methodLink RX2 53 yX2_digitShift, .static yX2_digitShift, .code yX2_digitShift cX2_digitShift 1 (some .int)] ++ wsX20)
def wsX2_tryFrom : List Cond := .code yX2_tryFrom cX2_tryFrom 8 (some .int) :: ([.fieldLink RX2 38 "CapitalReckoner$Search" "gifts" "I", .fieldLink RX2 34 "CapitalReckoner$Search" "takers" "I", .fieldLink RX2 11 "CapitalReckoner$Search" "usable" "[I", .fieldLink RX2 18 "CapitalReckoner$Search" "tried" "[I", .methodLink RX2 28 Lib.Math.min.name, .static Lib.Math.min.name, .initialized "java/lang/Math", .code Lib.Math.min.name Lib.Math.min.code 2 (some .int), .methodLink RX2 92 yX2_tryFrom, .static yX2_tryFrom, .initialized RX2, .static yX3_at, .initialized RX3, .code yX3_at cX3_at 2 (some .int), .static yX3_has, .code yX3_has cX3_has 2 (some .boolean), .methodLink RX2 68 yX2_weightedWith, .instanceMethod yX2_weightedWith, .selects RX2 yX2_weightedWith yX2_weightedWith, .code yX2_weightedWith cX2_weightedWith 3 (some .int), .fieldLink RX2 15 "CapitalReckoner$Search" "weightedBySet" "[I", .static yX3_put, .code yX3_put cX3_put 3 none] ++ wsX20)
def wsX2_triedWhole : List Cond := .code yX2_triedWhole cX2_triedWhole 3 (some .int) :: ([.fieldLink RX2 34 "CapitalReckoner$Search" "takers" "I", .fieldLink RX2 18 "CapitalReckoner$Search" "tried" "[I", .static yX3_put, .initialized RX3, .code yX3_put cX3_put 3 none, .methodLink RX2 68 yX2_weightedWith, .instanceMethod yX2_weightedWith, .selects RX2 yX2_weightedWith yX2_weightedWith, .initialized RX2, .code yX2_weightedWith cX2_weightedWith 3 (some .int), .fieldLink RX2 15 "CapitalReckoner$Search" "weightedBySet" "[I", .static yX3_at, .code yX3_at cX3_at 2 (some .int), .methodLink RX2 92 yX2_tryFrom, .static yX2_tryFrom, .code yX2_tryFrom cX2_tryFrom 8 (some .int), .fieldLink RX2 38 "CapitalReckoner$Search" "gifts" "I", .fieldLink RX2 11 "CapitalReckoner$Search" "usable" "[I", .methodLink RX2 28 Lib.Math.min.name, .static Lib.Math.min.name, .initialized "java/lang/Math", .code Lib.Math.min.name Lib.Math.min.code 2 (some .int), .static yX3_has, .code yX3_has cX3_has 2 (some .boolean)] ++ wsX20)
def wsX3_init_r1 : List Cond := [Cond.methodLink RX3 1 objectInit, Cond.instanceMethod objectInit, Cond.code objectInit ⟨#[0xb1]⟩ 1 none, Cond.arrayClass .int, Cond.fieldLink RX3 7 "CapitalReckoner" "weights" "[I", Cond.fieldLink RX3 13 "CapitalReckoner" "plainWeights" "[I", Cond.classLink RX3 16 RX0, Cond.fieldLink RX3 18 "CapitalReckoner" "book" "[LCapitalReckoner$Exposure;", Cond.classLink RX3 22 RX1, Cond.fieldLink RX3 24 "CapitalReckoner" "collateral" "[LCapitalReckoner$Piece;", Cond.classLink RX3 28 RX2, Cond.instantiable RX2 7, Cond.initialized RX2, Cond.fieldLink RX3 31 "CapitalReckoner" "search" "LCapitalReckoner$Search;", Cond.fieldLink RX3 35 "CapitalReckoner" "exposureCount" "I", Cond.fieldLink RX3 39 "CapitalReckoner" "pieceCount" "I", Cond.fieldLink RX3 42 "CapitalReckoner" "floor" "I", Cond.fieldLink RX3 45 "CapitalReckoner" "capital" "I", Cond.instanceMethod yX2_init, Cond.code yX2_init cX2_init 1 none, Cond.methodLink RX2 5 objectInit, Cond.fieldLink RX2 11 "CapitalReckoner$Search" "usable" "[I", Cond.fieldLink RX2 15 "CapitalReckoner$Search" "weightedBySet" "[I", Cond.fieldLink RX2 18 "CapitalReckoner$Search" "tried" "[I"]
def wsX3_init_r2 : List Cond := [Cond.arrayClass .long, Cond.fieldLink RX2 21 "CapitalReckoner$Search" "prices" "[J", Cond.fieldLink RX2 25 "CapitalReckoner$Search" "least" "[J"]
def wsX3_init : List Cond := .code yX3_init cX3_init 1 none :: ((wsX3_init_r1 ++ wsX3_init_r2) ++ wsX30 ++ wsX20)
def wsX3_isWithin : List Cond := .code yX3_isWithin cX3_isWithin 3 (some .boolean) :: ([])
def wsX3_isClass : List Cond := .code yX3_isClass cX3_isClass 1 (some .boolean) :: ([.methodLink RX3 59 yX3_isWithin, .static yX3_isWithin, .initialized RX3, .code yX3_isWithin cX3_isWithin 3 (some .boolean)])
def wsX3_setWeights : List Cond := .code yX3_setWeights cX3_setWeights 5 (some .int) :: ([.classLink RX3 52 "java/lang/IndexOutOfBoundsException", .initialized "java/lang/IndexOutOfBoundsException", .classLink RX3 63 "java/lang/IllegalArgumentException", .initialized "java/lang/IllegalArgumentException", .fieldLink RX3 7 "CapitalReckoner" "weights" "[I", .fieldLink RX3 13 "CapitalReckoner" "plainWeights" "[I", .methodLink RX3 48 yX3_isClass, .static yX3_isClass, .initialized RX3, .code yX3_isClass cX3_isClass 1 (some .boolean), .methodLink RX3 59 yX3_isWithin, .static yX3_isWithin, .code yX3_isWithin cX3_isWithin 3 (some .boolean), .methodLink RX3 68 yX3_at, .static yX3_at, .code yX3_at cX3_at 2 (some .int), .methodLink RX3 72 yX3_put, .static yX3_put, .code yX3_put cX3_put 3 none] ++ wsX30 ++ (vx_atS RX3 56 "java/lang/IndexOutOfBoundsException" ["java/lang/RuntimeException", "java/lang/Exception"]).filter goodWord ++ (vx_atS RX3 67 "java/lang/IllegalArgumentException" ["java/lang/RuntimeException", "java/lang/Exception"]).filter goodWord)
def wsX3_setFloor : List Cond := .code yX3_setFloor cX3_setFloor 3 (some .int) :: ([.classLink RX3 63 "java/lang/IllegalArgumentException", .initialized "java/lang/IllegalArgumentException", .fieldLink RX3 42 "CapitalReckoner" "floor" "I", .methodLink RX3 59 yX3_isWithin, .static yX3_isWithin, .initialized RX3, .code yX3_isWithin cX3_isWithin 3 (some .boolean)] ++ wsX30 ++ (vx_atS RX3 67 "java/lang/IllegalArgumentException" ["java/lang/RuntimeException", "java/lang/Exception"]).filter goodWord)
def wsX3_setCapital : List Cond := .code yX3_setCapital cX3_setCapital 3 (some .int) :: ([.classLink RX3 63 "java/lang/IllegalArgumentException", .initialized "java/lang/IllegalArgumentException", .constant RX3 78 (1000000000), .fieldLink RX3 45 "CapitalReckoner" "capital" "I", .methodLink RX3 59 yX3_isWithin, .static yX3_isWithin, .initialized RX3, .code yX3_isWithin cX3_isWithin 3 (some .boolean)] ++ wsX30 ++ (vx_atS RX3 67 "java/lang/IllegalArgumentException" ["java/lang/RuntimeException", "java/lang/Exception"]).filter goodWord)
def wsX3_isParty : List Cond := .code yX3_isParty cX3_isParty 1 (some .boolean) :: ([.methodLink RX3 59 yX3_isWithin, .static yX3_isWithin, .initialized RX3, .code yX3_isWithin cX3_isWithin 3 (some .boolean)])
def wsX3_isPart : List Cond := .code yX3_isPart cX3_isPart 1 (some .boolean) :: ([.constant RX3 112 (10000000), .methodLink RX3 59 yX3_isWithin, .static yX3_isWithin, .initialized RX3, .code yX3_isWithin cX3_isWithin 3 (some .boolean)])
def wsX3_isCurrency : List Cond := .code yX3_isCurrency cX3_isCurrency 1 (some .boolean) :: ([.methodLink RX3 59 yX3_isWithin, .static yX3_isWithin, .initialized RX3, .code yX3_isWithin cX3_isWithin 3 (some .boolean)])
def wsX3_isDays : List Cond := .code yX3_isDays cX3_isDays 1 (some .boolean) :: ([.methodLink RX3 59 yX3_isWithin, .static yX3_isWithin, .initialized RX3, .code yX3_isWithin cX3_isWithin 3 (some .boolean)])
def wsX3_addExposure_r1 : List Cond := [Cond.classLink RX3 52 "java/lang/IndexOutOfBoundsException", Cond.initialized "java/lang/IndexOutOfBoundsException", Cond.classLink RX3 63 "java/lang/IllegalArgumentException", Cond.initialized "java/lang/IllegalArgumentException", Cond.classLink RX3 97 "java/lang/IllegalStateException", Cond.initialized "java/lang/IllegalStateException", Cond.fieldLink RX3 35 "CapitalReckoner" "exposureCount" "I", Cond.fieldLink RX3 18 "CapitalReckoner" "book" "[LCapitalReckoner$Exposure;", Cond.classLink RX3 16 RX0, Cond.instantiable RX0 8, Cond.initialized RX0, Cond.methodLink RX3 48 yX3_isClass, Cond.static yX3_isClass, Cond.initialized RX3, Cond.code yX3_isClass cX3_isClass 1 (some .boolean), Cond.methodLink RX3 59 yX3_isWithin, Cond.static yX3_isWithin, Cond.code yX3_isWithin cX3_isWithin 3 (some .boolean), Cond.methodLink RX3 81 yX3_isParty, Cond.static yX3_isParty, Cond.code yX3_isParty cX3_isParty 1 (some .boolean), Cond.methodLink RX3 86 yX3_isPart, Cond.static yX3_isPart, Cond.code yX3_isPart cX3_isPart 1 (some .boolean)]
def wsX3_addExposure_r2 : List Cond := [Cond.constant RX3 112 (10000000), Cond.methodLink RX3 89 yX3_isCurrency, Cond.static yX3_isCurrency, Cond.code yX3_isCurrency cX3_isCurrency 1 (some .boolean), Cond.methodLink RX3 92 yX3_isDays, Cond.static yX3_isDays, Cond.code yX3_isDays cX3_isDays 1 (some .boolean), Cond.instanceMethod yX0_init, Cond.code yX0_init cX0_init 7 none, Cond.methodLink RX0 3 objectInit, Cond.instanceMethod objectInit, Cond.code objectInit ⟨#[0xb1]⟩ 1 none, Cond.fieldLink RX0 9 "CapitalReckoner$Exposure" "kind" "I", Cond.fieldLink RX0 15 "CapitalReckoner$Exposure" "party" "I", Cond.fieldLink RX0 18 "CapitalReckoner$Exposure" "drawn" "I", Cond.fieldLink RX0 21 "CapitalReckoner$Exposure" "promised" "I", Cond.fieldLink RX0 24 "CapitalReckoner$Exposure" "currency" "I", Cond.fieldLink RX0 27 "CapitalReckoner$Exposure" "days" "I", Cond.fieldLink RX0 30 "CapitalReckoner$Exposure" "guaranteeKind" "I", Cond.fieldLink RX0 33 "CapitalReckoner$Exposure" "guaranteeSum" "I"]
def wsX3_addExposure : List Cond := .code yX3_addExposure cX3_addExposure 8 (some .int) :: ((wsX3_addExposure_r1 ++ wsX3_addExposure_r2) ++ wsX30 ++ wsX00 ++ (vx_atS RX3 56 "java/lang/IndexOutOfBoundsException" ["java/lang/RuntimeException", "java/lang/Exception"]).filter goodWord ++ (vx_atS RX3 67 "java/lang/IllegalArgumentException" ["java/lang/RuntimeException", "java/lang/Exception"]).filter goodWord ++ (vx_atS RX3 101 "java/lang/IllegalStateException" ["java/lang/RuntimeException", "java/lang/Exception"]).filter goodWord)
def wsX3_exposureAt : List Cond := .code yX3_exposureAt cX3_exposureAt 2 (some (.object "CapitalReckoner$Exposure")) :: ([.fieldLink RX3 18 "CapitalReckoner" "book" "[LCapitalReckoner$Exposure;"] ++ wsX30)
def wsX3_draw : List Cond := .code yX3_draw cX3_draw 6 (some .int) :: ([.classLink RX3 52 "java/lang/IndexOutOfBoundsException", .initialized "java/lang/IndexOutOfBoundsException", .classLink RX3 63 "java/lang/IllegalArgumentException", .initialized "java/lang/IllegalArgumentException", .classLink RX3 97 "java/lang/IllegalStateException", .initialized "java/lang/IllegalStateException", .constant RX3 111 (-10000000), .constant RX3 112 (10000000), .methodLink RX3 105 yX3_exposureAt, .instanceMethod yX3_exposureAt, .selects RX3 yX3_exposureAt yX3_exposureAt, .initialized RX3, .code yX3_exposureAt cX3_exposureAt 2 (some (.object "CapitalReckoner$Exposure")), .fieldLink RX3 18 "CapitalReckoner" "book" "[LCapitalReckoner$Exposure;", .methodLink RX3 59 yX3_isWithin, .static yX3_isWithin, .code yX3_isWithin cX3_isWithin 3 (some .boolean), .methodLink RX3 86 yX3_isPart, .static yX3_isPart, .code yX3_isPart cX3_isPart 1 (some .boolean)] ++ wsX00 ++ wsX30 ++ (vx_atS RX3 56 "java/lang/IndexOutOfBoundsException" ["java/lang/RuntimeException", "java/lang/Exception"]).filter goodWord ++ (vx_atS RX3 67 "java/lang/IllegalArgumentException" ["java/lang/RuntimeException", "java/lang/Exception"]).filter goodWord ++ (vx_atS RX3 101 "java/lang/IllegalStateException" ["java/lang/RuntimeException", "java/lang/Exception"]).filter goodWord)
def wsX3_setClass : List Cond := .code yX3_setClass cX3_setClass 5 (some .int) :: ([.classLink RX3 52 "java/lang/IndexOutOfBoundsException", .initialized "java/lang/IndexOutOfBoundsException", .methodLink RX3 105 yX3_exposureAt, .instanceMethod yX3_exposureAt, .selects RX3 yX3_exposureAt yX3_exposureAt, .initialized RX3, .code yX3_exposureAt cX3_exposureAt 2 (some (.object "CapitalReckoner$Exposure")), .fieldLink RX3 18 "CapitalReckoner" "book" "[LCapitalReckoner$Exposure;", .methodLink RX3 48 yX3_isClass, .static yX3_isClass, .code yX3_isClass cX3_isClass 1 (some .boolean), .methodLink RX3 59 yX3_isWithin, .static yX3_isWithin, .code yX3_isWithin cX3_isWithin 3 (some .boolean)] ++ wsX00 ++ wsX30 ++ (vx_atS RX3 56 "java/lang/IndexOutOfBoundsException" ["java/lang/RuntimeException", "java/lang/Exception"]).filter goodWord)
def wsX3_guarantee : List Cond := .code yX3_guarantee cX3_guarantee 6 (some .int) :: ([.classLink RX3 52 "java/lang/IndexOutOfBoundsException", .initialized "java/lang/IndexOutOfBoundsException", .classLink RX3 63 "java/lang/IllegalArgumentException", .initialized "java/lang/IllegalArgumentException", .methodLink RX3 105 yX3_exposureAt, .instanceMethod yX3_exposureAt, .selects RX3 yX3_exposureAt yX3_exposureAt, .initialized RX3, .code yX3_exposureAt cX3_exposureAt 2 (some (.object "CapitalReckoner$Exposure")), .fieldLink RX3 18 "CapitalReckoner" "book" "[LCapitalReckoner$Exposure;", .methodLink RX3 48 yX3_isClass, .static yX3_isClass, .code yX3_isClass cX3_isClass 1 (some .boolean), .methodLink RX3 59 yX3_isWithin, .static yX3_isWithin, .code yX3_isWithin cX3_isWithin 3 (some .boolean), .methodLink RX3 86 yX3_isPart, .static yX3_isPart, .code yX3_isPart cX3_isPart 1 (some .boolean), .constant RX3 112 (10000000)] ++ wsX00 ++ wsX30 ++ (vx_atS RX3 56 "java/lang/IndexOutOfBoundsException" ["java/lang/RuntimeException", "java/lang/Exception"]).filter goodWord ++ (vx_atS RX3 67 "java/lang/IllegalArgumentException" ["java/lang/RuntimeException", "java/lang/Exception"]).filter goodWord)
def wsX3_exposures : List Cond := .code yX3_exposures cX3_exposures 1 (some .int) :: ([.fieldLink RX3 35 "CapitalReckoner" "exposureCount" "I"] ++ wsX30)
def wsX3_amount : List Cond := .code yX3_amount cX3_amount 3 (some .int) :: ([.classLink RX3 52 "java/lang/IndexOutOfBoundsException", .initialized "java/lang/IndexOutOfBoundsException", .methodLink RX3 105 yX3_exposureAt, .instanceMethod yX3_exposureAt, .selects RX3 yX3_exposureAt yX3_exposureAt, .initialized RX3, .code yX3_exposureAt cX3_exposureAt 2 (some (.object "CapitalReckoner$Exposure")), .fieldLink RX3 18 "CapitalReckoner" "book" "[LCapitalReckoner$Exposure;", .instanceMethod yX0_amountNow, .initialized RX0, .selects RX0 yX0_amountNow yX0_amountNow, .code yX0_amountNow cX0_amountNow 1 (some .int), .fieldLink RX0 18 "CapitalReckoner$Exposure" "drawn" "I", .fieldLink RX0 21 "CapitalReckoner$Exposure" "promised" "I", .static yX3_percentOf, .code yX3_percentOf cX3_percentOf 2 (some .int), .constantLong RX3 218 (100)] ++ wsX30 ++ wsX00 ++ (vx_atS RX3 56 "java/lang/IndexOutOfBoundsException" ["java/lang/RuntimeException", "java/lang/Exception"]).filter goodWord)
def wsX3_isPieceSum : List Cond := .code yX3_isPieceSum cX3_isPieceSum 1 (some .boolean) :: ([.constant RX3 112 (10000000), .methodLink RX3 59 yX3_isWithin, .static yX3_isWithin, .initialized RX3, .code yX3_isWithin cX3_isWithin 3 (some .boolean)])
def wsX3_isUses : List Cond := .code yX3_isUses cX3_isUses 1 (some .boolean) :: ([.methodLink RX3 59 yX3_isWithin, .static yX3_isWithin, .initialized RX3, .code yX3_isWithin cX3_isWithin 3 (some .boolean)])
def wsX3_addPiece_r1 : List Cond := [Cond.classLink RX3 63 "java/lang/IllegalArgumentException", Cond.initialized "java/lang/IllegalArgumentException", Cond.classLink RX3 97 "java/lang/IllegalStateException", Cond.initialized "java/lang/IllegalStateException", Cond.fieldLink RX3 39 "CapitalReckoner" "pieceCount" "I", Cond.fieldLink RX3 24 "CapitalReckoner" "collateral" "[LCapitalReckoner$Piece;", Cond.classLink RX3 22 RX1, Cond.instantiable RX1 5, Cond.initialized RX1, Cond.methodLink RX3 136 yX3_isPieceSum, Cond.static yX3_isPieceSum, Cond.initialized RX3, Cond.code yX3_isPieceSum cX3_isPieceSum 1 (some .boolean), Cond.constant RX3 112 (10000000), Cond.methodLink RX3 59 yX3_isWithin, Cond.static yX3_isWithin, Cond.code yX3_isWithin cX3_isWithin 3 (some .boolean), Cond.methodLink RX3 89 yX3_isCurrency, Cond.static yX3_isCurrency, Cond.code yX3_isCurrency cX3_isCurrency 1 (some .boolean), Cond.methodLink RX3 92 yX3_isDays, Cond.static yX3_isDays, Cond.code yX3_isDays cX3_isDays 1 (some .boolean), Cond.methodLink RX3 139 yX3_isUses]
def wsX3_addPiece_r2 : List Cond := [Cond.static yX3_isUses, Cond.code yX3_isUses cX3_isUses 1 (some .boolean), Cond.instanceMethod yX1_init, Cond.code yX1_init cX1_init 6 none, Cond.methodLink RX1 3 objectInit, Cond.instanceMethod objectInit, Cond.code objectInit ⟨#[0xb1]⟩ 1 none, Cond.fieldLink RX1 9 "CapitalReckoner$Piece" "amount" "I", Cond.fieldLink RX1 15 "CapitalReckoner$Piece" "haircut" "I", Cond.fieldLink RX1 18 "CapitalReckoner$Piece" "currency" "I", Cond.fieldLink RX1 21 "CapitalReckoner$Piece" "days" "I", Cond.fieldLink RX1 24 "CapitalReckoner$Piece" "uses" "I"]
def wsX3_addPiece : List Cond := .code yX3_addPiece cX3_addPiece 7 (some .int) :: ((wsX3_addPiece_r1 ++ wsX3_addPiece_r2) ++ wsX30 ++ wsX10 ++ (vx_atS RX3 67 "java/lang/IllegalArgumentException" ["java/lang/RuntimeException", "java/lang/Exception"]).filter goodWord ++ (vx_atS RX3 101 "java/lang/IllegalStateException" ["java/lang/RuntimeException", "java/lang/Exception"]).filter goodWord)
def wsX3_pieceAt : List Cond := .code yX3_pieceAt cX3_pieceAt 2 (some (.object "CapitalReckoner$Piece")) :: ([.fieldLink RX3 24 "CapitalReckoner" "collateral" "[LCapitalReckoner$Piece;"] ++ wsX30)
def wsX3_setPiece : List Cond := .code yX3_setPiece cX3_setPiece 6 (some .int) :: ([.classLink RX3 52 "java/lang/IndexOutOfBoundsException", .initialized "java/lang/IndexOutOfBoundsException", .classLink RX3 63 "java/lang/IllegalArgumentException", .initialized "java/lang/IllegalArgumentException", .methodLink RX3 149 yX3_pieceAt, .instanceMethod yX3_pieceAt, .selects RX3 yX3_pieceAt yX3_pieceAt, .initialized RX3, .code yX3_pieceAt cX3_pieceAt 2 (some (.object "CapitalReckoner$Piece")), .fieldLink RX3 24 "CapitalReckoner" "collateral" "[LCapitalReckoner$Piece;", .methodLink RX3 136 yX3_isPieceSum, .static yX3_isPieceSum, .code yX3_isPieceSum cX3_isPieceSum 1 (some .boolean), .constant RX3 112 (10000000), .methodLink RX3 59 yX3_isWithin, .static yX3_isWithin, .code yX3_isWithin cX3_isWithin 3 (some .boolean), .methodLink RX3 139 yX3_isUses, .static yX3_isUses, .code yX3_isUses cX3_isUses 1 (some .boolean)] ++ wsX10 ++ wsX30 ++ (vx_atS RX3 56 "java/lang/IndexOutOfBoundsException" ["java/lang/RuntimeException", "java/lang/Exception"]).filter goodWord ++ (vx_atS RX3 67 "java/lang/IllegalArgumentException" ["java/lang/RuntimeException", "java/lang/Exception"]).filter goodWord)
def wsX3_pieces : List Cond := .code yX3_pieces cX3_pieces 1 (some .int) :: ([.fieldLink RX3 39 "CapitalReckoner" "pieceCount" "I"] ++ wsX30)
def wsX3_value : List Cond := .code yX3_value cX3_value 5 (some .int) :: ([.classLink RX3 52 "java/lang/IndexOutOfBoundsException", .initialized "java/lang/IndexOutOfBoundsException", .methodLink RX3 149 yX3_pieceAt, .instanceMethod yX3_pieceAt, .selects RX3 yX3_pieceAt yX3_pieceAt, .initialized RX3, .code yX3_pieceAt cX3_pieceAt 2 (some (.object "CapitalReckoner$Piece")), .fieldLink RX3 24 "CapitalReckoner" "collateral" "[LCapitalReckoner$Piece;", .methodLink RX3 105 yX3_exposureAt, .instanceMethod yX3_exposureAt, .selects RX3 yX3_exposureAt yX3_exposureAt, .code yX3_exposureAt cX3_exposureAt 2 (some (.object "CapitalReckoner$Exposure")), .fieldLink RX3 18 "CapitalReckoner" "book" "[LCapitalReckoner$Exposure;", .instanceMethod yX1_valueFor, .initialized RX1, .selects RX1 yX1_valueFor yX1_valueFor, .code yX1_valueFor cX1_valueFor 3 (some .int), .fieldLink RX1 9 "CapitalReckoner$Piece" "amount" "I", .fieldLink RX1 15 "CapitalReckoner$Piece" "haircut" "I", .fieldLink RX1 18 "CapitalReckoner$Piece" "currency" "I", .fieldLink RX1 21 "CapitalReckoner$Piece" "days" "I", .static yX3_percentOf, .code yX3_percentOf cX3_percentOf 2 (some .int), .constantLong RX3 218 (100)] ++ wsX30 ++ wsX10 ++ wsX00 ++ (vx_atS RX3 56 "java/lang/IndexOutOfBoundsException" ["java/lang/RuntimeException", "java/lang/Exception"]).filter goodWord)
def wsX3_usableFor : List Cond := .code yX3_usableFor cX3_usableFor 5 (some .int) :: ([.fieldLink RX3 39 "CapitalReckoner" "pieceCount" "I", .methodLink RX3 149 yX3_pieceAt, .instanceMethod yX3_pieceAt, .selects RX3 yX3_pieceAt yX3_pieceAt, .initialized RX3, .code yX3_pieceAt cX3_pieceAt 2 (some (.object "CapitalReckoner$Piece")), .fieldLink RX3 24 "CapitalReckoner" "collateral" "[LCapitalReckoner$Piece;", .methodLink RX3 220 yX3_has, .static yX3_has, .code yX3_has cX3_has 2 (some .boolean)] ++ wsX30 ++ wsX10)
def wsX3_bareWith_r1 : List Cond := [Cond.fieldLink RX3 39 "CapitalReckoner" "pieceCount" "I", Cond.methodLink RX3 208 Lib.Math.max.name, Cond.static Lib.Math.max.name, Cond.initialized "java/lang/Math", Cond.code Lib.Math.max.name Lib.Math.max.code 2 (some .int), Cond.instanceMethod yX0_amountNow, Cond.initialized RX0, Cond.selects RX0 yX0_amountNow yX0_amountNow, Cond.code yX0_amountNow cX0_amountNow 1 (some .int), Cond.fieldLink RX0 18 "CapitalReckoner$Exposure" "drawn" "I", Cond.fieldLink RX0 21 "CapitalReckoner$Exposure" "promised" "I", Cond.static yX3_percentOf, Cond.initialized RX3, Cond.code yX3_percentOf cX3_percentOf 2 (some .int), Cond.constantLong RX3 218 (100), Cond.methodLink RX3 149 yX3_pieceAt, Cond.instanceMethod yX3_pieceAt, Cond.selects RX3 yX3_pieceAt yX3_pieceAt, Cond.code yX3_pieceAt cX3_pieceAt 2 (some (.object "CapitalReckoner$Piece")), Cond.fieldLink RX3 24 "CapitalReckoner" "collateral" "[LCapitalReckoner$Piece;", Cond.methodLink RX3 220 yX3_has, Cond.static yX3_has, Cond.code yX3_has cX3_has 2 (some .boolean), Cond.instanceMethod yX1_valueFor]
def wsX3_bareWith_r2 : List Cond := [Cond.initialized RX1, Cond.selects RX1 yX1_valueFor yX1_valueFor, Cond.code yX1_valueFor cX1_valueFor 3 (some .int), Cond.fieldLink RX1 9 "CapitalReckoner$Piece" "amount" "I", Cond.fieldLink RX1 15 "CapitalReckoner$Piece" "haircut" "I", Cond.fieldLink RX1 18 "CapitalReckoner$Piece" "currency" "I", Cond.fieldLink RX1 21 "CapitalReckoner$Piece" "days" "I"]
def wsX3_bareWith : List Cond := .code yX3_bareWith cX3_bareWith 6 (some .int) :: ((wsX3_bareWith_r1 ++ wsX3_bareWith_r2) ++ wsX30 ++ wsX00 ++ wsX10)
def wsX3_weightedOf : List Cond := .code yX3_weightedOf cX3_weightedOf 6 (some .int) :: ([.fieldLink RX3 7 "CapitalReckoner" "weights" "[I", .methodLink RX3 224 Lib.Math.min.name, .static Lib.Math.min.name, .initialized "java/lang/Math", .code Lib.Math.min.name Lib.Math.min.code 2 (some .int), .methodLink RX3 68 yX3_at, .static yX3_at, .initialized RX3, .code yX3_at cX3_at 2 (some .int), .methodLink RX3 198 yX3_percentOf, .static yX3_percentOf, .code yX3_percentOf cX3_percentOf 2 (some .int), .constantLong RX3 218 (100)] ++ wsX30 ++ wsX00)
def wsX3_fillSearch_r1 : List Cond := [Cond.fieldLink RX3 31 "CapitalReckoner" "search" "LCapitalReckoner$Search;", Cond.fieldLink RX3 35 "CapitalReckoner" "exposureCount" "I", Cond.fieldLink RX3 39 "CapitalReckoner" "pieceCount" "I", Cond.instanceMethod yX2_begin, Cond.initialized RX2, Cond.selects RX2 yX2_begin yX2_begin, Cond.code yX2_begin cX2_begin 3 none, Cond.methodLink RX2 28 Lib.Math.min.name, Cond.static Lib.Math.min.name, Cond.initialized "java/lang/Math", Cond.code Lib.Math.min.name Lib.Math.min.code 2 (some .int), Cond.fieldLink RX2 34 "CapitalReckoner$Search" "takers" "I", Cond.fieldLink RX2 38 "CapitalReckoner$Search" "gifts" "I", Cond.methodLink RX3 105 yX3_exposureAt, Cond.instanceMethod yX3_exposureAt, Cond.selects RX3 yX3_exposureAt yX3_exposureAt, Cond.initialized RX3, Cond.code yX3_exposureAt cX3_exposureAt 2 (some (.object "CapitalReckoner$Exposure")), Cond.fieldLink RX3 18 "CapitalReckoner" "book" "[LCapitalReckoner$Exposure;", Cond.methodLink RX3 237 yX3_usableFor, Cond.instanceMethod yX3_usableFor, Cond.selects RX3 yX3_usableFor yX3_usableFor, Cond.code yX3_usableFor cX3_usableFor 5 (some .int), Cond.methodLink RX3 149 yX3_pieceAt]
def wsX3_fillSearch_r2 : List Cond := [Cond.instanceMethod yX3_pieceAt, Cond.selects RX3 yX3_pieceAt yX3_pieceAt, Cond.code yX3_pieceAt cX3_pieceAt 2 (some (.object "CapitalReckoner$Piece")), Cond.fieldLink RX3 24 "CapitalReckoner" "collateral" "[LCapitalReckoner$Piece;", Cond.methodLink RX3 220 yX3_has, Cond.static yX3_has, Cond.code yX3_has cX3_has 2 (some .boolean), Cond.instanceMethod yX2_setUsable, Cond.selects RX2 yX2_setUsable yX2_setUsable, Cond.code yX2_setUsable cX2_setUsable 3 none, Cond.fieldLink RX2 11 "CapitalReckoner$Search" "usable" "[I", Cond.static yX3_put, Cond.code yX3_put cX3_put 3 none, Cond.methodLink RX3 179 yX3_bareWith, Cond.instanceMethod yX3_bareWith, Cond.selects RX3 yX3_bareWith yX3_bareWith, Cond.code yX3_bareWith cX3_bareWith 6 (some .int), Cond.methodLink RX3 208 Lib.Math.max.name, Cond.static Lib.Math.max.name, Cond.code Lib.Math.max.name Lib.Math.max.code 2 (some .int), Cond.instanceMethod yX0_amountNow, Cond.initialized RX0, Cond.selects RX0 yX0_amountNow yX0_amountNow, Cond.code yX0_amountNow cX0_amountNow 1 (some .int)]
def wsX3_fillSearch_r3 : List Cond := [Cond.fieldLink RX0 18 "CapitalReckoner$Exposure" "drawn" "I", Cond.fieldLink RX0 21 "CapitalReckoner$Exposure" "promised" "I", Cond.static yX3_percentOf, Cond.code yX3_percentOf cX3_percentOf 2 (some .int), Cond.constantLong RX3 218 (100), Cond.instanceMethod yX1_valueFor, Cond.initialized RX1, Cond.selects RX1 yX1_valueFor yX1_valueFor, Cond.code yX1_valueFor cX1_valueFor 3 (some .int), Cond.fieldLink RX1 9 "CapitalReckoner$Piece" "amount" "I", Cond.fieldLink RX1 15 "CapitalReckoner$Piece" "haircut" "I", Cond.fieldLink RX1 18 "CapitalReckoner$Piece" "currency" "I", Cond.fieldLink RX1 21 "CapitalReckoner$Piece" "days" "I", Cond.methodLink RX3 183 yX3_weightedOf, Cond.instanceMethod yX3_weightedOf, Cond.selects RX3 yX3_weightedOf yX3_weightedOf, Cond.code yX3_weightedOf cX3_weightedOf 6 (some .int), Cond.fieldLink RX3 7 "CapitalReckoner" "weights" "[I", Cond.methodLink RX3 224 Lib.Math.min.name, Cond.methodLink RX3 68 yX3_at, Cond.static yX3_at, Cond.code yX3_at cX3_at 2 (some .int), Cond.methodLink RX3 198 yX3_percentOf, Cond.instanceMethod yX2_setWeighted]
def wsX3_fillSearch_r4 : List Cond := [Cond.selects RX2 yX2_setWeighted yX2_setWeighted, Cond.code yX2_setWeighted cX2_setWeighted 4 none, Cond.fieldLink RX2 15 "CapitalReckoner$Search" "weightedBySet" "[I"]
def wsX3_fillSearch : List Cond := .code yX3_fillSearch cX3_fillSearch 4 none :: ((wsX3_fillSearch_r1 ++ (wsX3_fillSearch_r2 ++ (wsX3_fillSearch_r3 ++ wsX3_fillSearch_r4))) ++ wsX30 ++ wsX20 ++ wsX10 ++ wsX00)
def wsX3_findBest_r1 : List Cond := [Cond.fieldLink RX3 31 "CapitalReckoner" "search" "LCapitalReckoner$Search;", Cond.methodLink RX3 189 yX3_fillSearch, Cond.instanceMethod yX3_fillSearch, Cond.selects RX3 yX3_fillSearch yX3_fillSearch, Cond.initialized RX3, Cond.code yX3_fillSearch cX3_fillSearch 4 none, Cond.fieldLink RX3 35 "CapitalReckoner" "exposureCount" "I", Cond.fieldLink RX3 39 "CapitalReckoner" "pieceCount" "I", Cond.instanceMethod yX2_begin, Cond.initialized RX2, Cond.selects RX2 yX2_begin yX2_begin, Cond.code yX2_begin cX2_begin 3 none, Cond.methodLink RX2 28 Lib.Math.min.name, Cond.static Lib.Math.min.name, Cond.initialized "java/lang/Math", Cond.code Lib.Math.min.name Lib.Math.min.code 2 (some .int), Cond.fieldLink RX2 34 "CapitalReckoner$Search" "takers" "I", Cond.fieldLink RX2 38 "CapitalReckoner$Search" "gifts" "I", Cond.methodLink RX3 105 yX3_exposureAt, Cond.instanceMethod yX3_exposureAt, Cond.selects RX3 yX3_exposureAt yX3_exposureAt, Cond.code yX3_exposureAt cX3_exposureAt 2 (some (.object "CapitalReckoner$Exposure")), Cond.fieldLink RX3 18 "CapitalReckoner" "book" "[LCapitalReckoner$Exposure;", Cond.methodLink RX3 237 yX3_usableFor]
def wsX3_findBest_r2 : List Cond := [Cond.instanceMethod yX3_usableFor, Cond.selects RX3 yX3_usableFor yX3_usableFor, Cond.code yX3_usableFor cX3_usableFor 5 (some .int), Cond.methodLink RX3 149 yX3_pieceAt, Cond.instanceMethod yX3_pieceAt, Cond.selects RX3 yX3_pieceAt yX3_pieceAt, Cond.code yX3_pieceAt cX3_pieceAt 2 (some (.object "CapitalReckoner$Piece")), Cond.fieldLink RX3 24 "CapitalReckoner" "collateral" "[LCapitalReckoner$Piece;", Cond.methodLink RX3 220 yX3_has, Cond.static yX3_has, Cond.code yX3_has cX3_has 2 (some .boolean), Cond.instanceMethod yX2_setUsable, Cond.selects RX2 yX2_setUsable yX2_setUsable, Cond.code yX2_setUsable cX2_setUsable 3 none, Cond.fieldLink RX2 11 "CapitalReckoner$Search" "usable" "[I", Cond.static yX3_put, Cond.code yX3_put cX3_put 3 none, Cond.methodLink RX3 179 yX3_bareWith, Cond.instanceMethod yX3_bareWith, Cond.selects RX3 yX3_bareWith yX3_bareWith, Cond.code yX3_bareWith cX3_bareWith 6 (some .int), Cond.methodLink RX3 208 Lib.Math.max.name, Cond.static Lib.Math.max.name, Cond.code Lib.Math.max.name Lib.Math.max.code 2 (some .int)]
def wsX3_findBest_r3 : List Cond := [Cond.instanceMethod yX0_amountNow, Cond.initialized RX0, Cond.selects RX0 yX0_amountNow yX0_amountNow, Cond.code yX0_amountNow cX0_amountNow 1 (some .int), Cond.fieldLink RX0 18 "CapitalReckoner$Exposure" "drawn" "I", Cond.fieldLink RX0 21 "CapitalReckoner$Exposure" "promised" "I", Cond.static yX3_percentOf, Cond.code yX3_percentOf cX3_percentOf 2 (some .int), Cond.constantLong RX3 218 (100), Cond.instanceMethod yX1_valueFor, Cond.initialized RX1, Cond.selects RX1 yX1_valueFor yX1_valueFor, Cond.code yX1_valueFor cX1_valueFor 3 (some .int), Cond.fieldLink RX1 9 "CapitalReckoner$Piece" "amount" "I", Cond.fieldLink RX1 15 "CapitalReckoner$Piece" "haircut" "I", Cond.fieldLink RX1 18 "CapitalReckoner$Piece" "currency" "I", Cond.fieldLink RX1 21 "CapitalReckoner$Piece" "days" "I", Cond.methodLink RX3 183 yX3_weightedOf, Cond.instanceMethod yX3_weightedOf, Cond.selects RX3 yX3_weightedOf yX3_weightedOf, Cond.code yX3_weightedOf cX3_weightedOf 6 (some .int), Cond.fieldLink RX3 7 "CapitalReckoner" "weights" "[I", Cond.methodLink RX3 224 Lib.Math.min.name, Cond.methodLink RX3 68 yX3_at]
def wsX3_findBest_r4 : List Cond := [Cond.static yX3_at, Cond.code yX3_at cX3_at 2 (some .int), Cond.methodLink RX3 198 yX3_percentOf, Cond.instanceMethod yX2_setWeighted, Cond.selects RX2 yX2_setWeighted yX2_setWeighted, Cond.code yX2_setWeighted cX2_setWeighted 4 none, Cond.fieldLink RX2 15 "CapitalReckoner$Search" "weightedBySet" "[I", Cond.instanceMethod yX2_findLeast, Cond.selects RX2 yX2_findLeast yX2_findLeast, Cond.code yX2_findLeast cX2_findLeast 3 none, Cond.fieldLink RX2 25 "CapitalReckoner$Search" "least" "[J", Cond.methodLink RX2 57 yX2_digitsOf, Cond.static yX2_digitsOf, Cond.code yX2_digitsOf cX2_digitsOf 5 (some .long), Cond.methodLink RX2 53 yX2_digitShift, Cond.static yX2_digitShift, Cond.code yX2_digitShift cX2_digitShift 1 (some .int), Cond.methodLink RX2 61 yX2_fillPrices, Cond.instanceMethod yX2_fillPrices, Cond.selects RX2 yX2_fillPrices yX2_fillPrices, Cond.code yX2_fillPrices cX2_fillPrices 3 none, Cond.fieldLink RX2 21 "CapitalReckoner$Search" "prices" "[J", Cond.methodLink RX2 68 yX2_weightedWith, Cond.instanceMethod yX2_weightedWith]
def wsX3_findBest_r5 : List Cond := [Cond.selects RX2 yX2_weightedWith yX2_weightedWith, Cond.code yX2_weightedWith cX2_weightedWith 3 (some .int), Cond.methodLink RX2 65 yX2_leastOf, Cond.instanceMethod yX2_leastOf, Cond.selects RX2 yX2_leastOf yX2_leastOf, Cond.code yX2_leastOf cX2_leastOf 6 (some .long), Cond.methodLink RX2 78 Lib.MathLoose.min_long.x, Cond.static Lib.MathLoose.min_long.x, Cond.code Lib.MathLoose.min_long.x Lib.MathLoose.min_long.code 4 (some .long), Cond.methodLink RX2 71 yX2_priceOf, Cond.instanceMethod yX2_priceOf, Cond.selects RX2 yX2_priceOf yX2_priceOf, Cond.code yX2_priceOf cX2_priceOf 2 (some .long), Cond.methodLink RX2 75 yX2_leastKey, Cond.instanceMethod yX2_leastKey, Cond.selects RX2 yX2_leastKey yX2_leastKey, Cond.code yX2_leastKey cX2_leastKey 2 (some .long)]
def wsX3_findBest : List Cond := .code yX3_findBest cX3_findBest 1 none :: ((wsX3_findBest_r1 ++ (wsX3_findBest_r2 ++ (wsX3_findBest_r3 ++ (wsX3_findBest_r4 ++ wsX3_findBest_r5)))) ++ wsX30 ++ wsX20 ++ wsX10 ++ wsX00)
def wsX3_givenTo_r1 : List Cond := [Cond.classLink RX3 52 "java/lang/IndexOutOfBoundsException", Cond.initialized "java/lang/IndexOutOfBoundsException", Cond.fieldLink RX3 31 "CapitalReckoner" "search" "LCapitalReckoner$Search;", Cond.methodLink RX3 149 yX3_pieceAt, Cond.instanceMethod yX3_pieceAt, Cond.selects RX3 yX3_pieceAt yX3_pieceAt, Cond.initialized RX3, Cond.code yX3_pieceAt cX3_pieceAt 2 (some (.object "CapitalReckoner$Piece")), Cond.fieldLink RX3 24 "CapitalReckoner" "collateral" "[LCapitalReckoner$Piece;", Cond.methodLink RX3 169 yX3_findBest, Cond.instanceMethod yX3_findBest, Cond.selects RX3 yX3_findBest yX3_findBest, Cond.code yX3_findBest cX3_findBest 1 none, Cond.methodLink RX3 189 yX3_fillSearch, Cond.instanceMethod yX3_fillSearch, Cond.selects RX3 yX3_fillSearch yX3_fillSearch, Cond.code yX3_fillSearch cX3_fillSearch 4 none, Cond.fieldLink RX3 35 "CapitalReckoner" "exposureCount" "I", Cond.fieldLink RX3 39 "CapitalReckoner" "pieceCount" "I", Cond.instanceMethod yX2_begin, Cond.initialized RX2, Cond.selects RX2 yX2_begin yX2_begin, Cond.code yX2_begin cX2_begin 3 none, Cond.methodLink RX2 28 Lib.Math.min.name]
def wsX3_givenTo_r2 : List Cond := [Cond.static Lib.Math.min.name, Cond.initialized "java/lang/Math", Cond.code Lib.Math.min.name Lib.Math.min.code 2 (some .int), Cond.fieldLink RX2 34 "CapitalReckoner$Search" "takers" "I", Cond.fieldLink RX2 38 "CapitalReckoner$Search" "gifts" "I", Cond.methodLink RX3 105 yX3_exposureAt, Cond.instanceMethod yX3_exposureAt, Cond.selects RX3 yX3_exposureAt yX3_exposureAt, Cond.code yX3_exposureAt cX3_exposureAt 2 (some (.object "CapitalReckoner$Exposure")), Cond.fieldLink RX3 18 "CapitalReckoner" "book" "[LCapitalReckoner$Exposure;", Cond.methodLink RX3 237 yX3_usableFor, Cond.instanceMethod yX3_usableFor, Cond.selects RX3 yX3_usableFor yX3_usableFor, Cond.code yX3_usableFor cX3_usableFor 5 (some .int), Cond.methodLink RX3 220 yX3_has, Cond.static yX3_has, Cond.code yX3_has cX3_has 2 (some .boolean), Cond.instanceMethod yX2_setUsable, Cond.selects RX2 yX2_setUsable yX2_setUsable, Cond.code yX2_setUsable cX2_setUsable 3 none, Cond.fieldLink RX2 11 "CapitalReckoner$Search" "usable" "[I", Cond.static yX3_put, Cond.code yX3_put cX3_put 3 none, Cond.methodLink RX3 179 yX3_bareWith]
def wsX3_givenTo_r3 : List Cond := [Cond.instanceMethod yX3_bareWith, Cond.selects RX3 yX3_bareWith yX3_bareWith, Cond.code yX3_bareWith cX3_bareWith 6 (some .int), Cond.methodLink RX3 208 Lib.Math.max.name, Cond.static Lib.Math.max.name, Cond.code Lib.Math.max.name Lib.Math.max.code 2 (some .int), Cond.instanceMethod yX0_amountNow, Cond.initialized RX0, Cond.selects RX0 yX0_amountNow yX0_amountNow, Cond.code yX0_amountNow cX0_amountNow 1 (some .int), Cond.fieldLink RX0 18 "CapitalReckoner$Exposure" "drawn" "I", Cond.fieldLink RX0 21 "CapitalReckoner$Exposure" "promised" "I", Cond.static yX3_percentOf, Cond.code yX3_percentOf cX3_percentOf 2 (some .int), Cond.constantLong RX3 218 (100), Cond.instanceMethod yX1_valueFor, Cond.initialized RX1, Cond.selects RX1 yX1_valueFor yX1_valueFor, Cond.code yX1_valueFor cX1_valueFor 3 (some .int), Cond.fieldLink RX1 9 "CapitalReckoner$Piece" "amount" "I", Cond.fieldLink RX1 15 "CapitalReckoner$Piece" "haircut" "I", Cond.fieldLink RX1 18 "CapitalReckoner$Piece" "currency" "I", Cond.fieldLink RX1 21 "CapitalReckoner$Piece" "days" "I", Cond.methodLink RX3 183 yX3_weightedOf]
def wsX3_givenTo_r4 : List Cond := [Cond.instanceMethod yX3_weightedOf, Cond.selects RX3 yX3_weightedOf yX3_weightedOf, Cond.code yX3_weightedOf cX3_weightedOf 6 (some .int), Cond.fieldLink RX3 7 "CapitalReckoner" "weights" "[I", Cond.methodLink RX3 224 Lib.Math.min.name, Cond.methodLink RX3 68 yX3_at, Cond.static yX3_at, Cond.code yX3_at cX3_at 2 (some .int), Cond.methodLink RX3 198 yX3_percentOf, Cond.instanceMethod yX2_setWeighted, Cond.selects RX2 yX2_setWeighted yX2_setWeighted, Cond.code yX2_setWeighted cX2_setWeighted 4 none, Cond.fieldLink RX2 15 "CapitalReckoner$Search" "weightedBySet" "[I", Cond.instanceMethod yX2_findLeast, Cond.selects RX2 yX2_findLeast yX2_findLeast, Cond.code yX2_findLeast cX2_findLeast 3 none, Cond.fieldLink RX2 25 "CapitalReckoner$Search" "least" "[J", Cond.methodLink RX2 57 yX2_digitsOf, Cond.static yX2_digitsOf, Cond.code yX2_digitsOf cX2_digitsOf 5 (some .long), Cond.methodLink RX2 53 yX2_digitShift, Cond.static yX2_digitShift, Cond.code yX2_digitShift cX2_digitShift 1 (some .int), Cond.methodLink RX2 61 yX2_fillPrices]
def wsX3_givenTo_r5 : List Cond := [Cond.instanceMethod yX2_fillPrices, Cond.selects RX2 yX2_fillPrices yX2_fillPrices, Cond.code yX2_fillPrices cX2_fillPrices 3 none, Cond.fieldLink RX2 21 "CapitalReckoner$Search" "prices" "[J", Cond.methodLink RX2 68 yX2_weightedWith, Cond.instanceMethod yX2_weightedWith, Cond.selects RX2 yX2_weightedWith yX2_weightedWith, Cond.code yX2_weightedWith cX2_weightedWith 3 (some .int), Cond.methodLink RX2 65 yX2_leastOf, Cond.instanceMethod yX2_leastOf, Cond.selects RX2 yX2_leastOf yX2_leastOf, Cond.code yX2_leastOf cX2_leastOf 6 (some .long), Cond.methodLink RX2 78 Lib.MathLoose.min_long.x, Cond.static Lib.MathLoose.min_long.x, Cond.code Lib.MathLoose.min_long.x Lib.MathLoose.min_long.code 4 (some .long), Cond.methodLink RX2 71 yX2_priceOf, Cond.instanceMethod yX2_priceOf, Cond.selects RX2 yX2_priceOf yX2_priceOf, Cond.code yX2_priceOf cX2_priceOf 2 (some .long), Cond.methodLink RX2 75 yX2_leastKey, Cond.instanceMethod yX2_leastKey, Cond.selects RX2 yX2_leastKey yX2_leastKey, Cond.code yX2_leastKey cX2_leastKey 2 (some .long), Cond.instanceMethod yX2_takerOf]
def wsX3_givenTo_r6 : List Cond := [Cond.selects RX2 yX2_takerOf yX2_takerOf, Cond.code yX2_takerOf cX2_takerOf 3 (some .int), Cond.methodLink RX2 85 yX2_bestKey, Cond.instanceMethod yX2_bestKey, Cond.selects RX2 yX2_bestKey yX2_bestKey, Cond.code yX2_bestKey cX2_bestKey 1 (some .long), Cond.methodLink RX2 81 yX2_allGifts, Cond.instanceMethod yX2_allGifts, Cond.selects RX2 yX2_allGifts yX2_allGifts, Cond.code yX2_allGifts cX2_allGifts 1 (some .int)]
def wsX3_givenTo : List Cond := .code yX3_givenTo cX3_givenTo 2 (some .int) :: ((wsX3_givenTo_r1 ++ (wsX3_givenTo_r2 ++ (wsX3_givenTo_r3 ++ (wsX3_givenTo_r4 ++ (wsX3_givenTo_r5 ++ wsX3_givenTo_r6))))) ++ wsX30 ++ wsX20 ++ wsX10 ++ wsX00 ++ (vx_atS RX3 56 "java/lang/IndexOutOfBoundsException" ["java/lang/RuntimeException", "java/lang/Exception"]).filter goodWord)
def wsX3_bare_r1 : List Cond := [Cond.classLink RX3 52 "java/lang/IndexOutOfBoundsException", Cond.initialized "java/lang/IndexOutOfBoundsException", Cond.fieldLink RX3 31 "CapitalReckoner" "search" "LCapitalReckoner$Search;", Cond.methodLink RX3 105 yX3_exposureAt, Cond.instanceMethod yX3_exposureAt, Cond.selects RX3 yX3_exposureAt yX3_exposureAt, Cond.initialized RX3, Cond.code yX3_exposureAt cX3_exposureAt 2 (some (.object "CapitalReckoner$Exposure")), Cond.fieldLink RX3 18 "CapitalReckoner" "book" "[LCapitalReckoner$Exposure;", Cond.methodLink RX3 169 yX3_findBest, Cond.instanceMethod yX3_findBest, Cond.selects RX3 yX3_findBest yX3_findBest, Cond.code yX3_findBest cX3_findBest 1 none, Cond.methodLink RX3 189 yX3_fillSearch, Cond.instanceMethod yX3_fillSearch, Cond.selects RX3 yX3_fillSearch yX3_fillSearch, Cond.code yX3_fillSearch cX3_fillSearch 4 none, Cond.fieldLink RX3 35 "CapitalReckoner" "exposureCount" "I", Cond.fieldLink RX3 39 "CapitalReckoner" "pieceCount" "I", Cond.instanceMethod yX2_begin, Cond.initialized RX2, Cond.selects RX2 yX2_begin yX2_begin, Cond.code yX2_begin cX2_begin 3 none, Cond.methodLink RX2 28 Lib.Math.min.name]
def wsX3_bare_r2 : List Cond := [Cond.static Lib.Math.min.name, Cond.initialized "java/lang/Math", Cond.code Lib.Math.min.name Lib.Math.min.code 2 (some .int), Cond.fieldLink RX2 34 "CapitalReckoner$Search" "takers" "I", Cond.fieldLink RX2 38 "CapitalReckoner$Search" "gifts" "I", Cond.methodLink RX3 237 yX3_usableFor, Cond.instanceMethod yX3_usableFor, Cond.selects RX3 yX3_usableFor yX3_usableFor, Cond.code yX3_usableFor cX3_usableFor 5 (some .int), Cond.methodLink RX3 149 yX3_pieceAt, Cond.instanceMethod yX3_pieceAt, Cond.selects RX3 yX3_pieceAt yX3_pieceAt, Cond.code yX3_pieceAt cX3_pieceAt 2 (some (.object "CapitalReckoner$Piece")), Cond.fieldLink RX3 24 "CapitalReckoner" "collateral" "[LCapitalReckoner$Piece;", Cond.methodLink RX3 220 yX3_has, Cond.static yX3_has, Cond.code yX3_has cX3_has 2 (some .boolean), Cond.instanceMethod yX2_setUsable, Cond.selects RX2 yX2_setUsable yX2_setUsable, Cond.code yX2_setUsable cX2_setUsable 3 none, Cond.fieldLink RX2 11 "CapitalReckoner$Search" "usable" "[I", Cond.static yX3_put, Cond.code yX3_put cX3_put 3 none, Cond.methodLink RX3 179 yX3_bareWith]
def wsX3_bare_r3 : List Cond := [Cond.instanceMethod yX3_bareWith, Cond.selects RX3 yX3_bareWith yX3_bareWith, Cond.code yX3_bareWith cX3_bareWith 6 (some .int), Cond.methodLink RX3 208 Lib.Math.max.name, Cond.static Lib.Math.max.name, Cond.code Lib.Math.max.name Lib.Math.max.code 2 (some .int), Cond.instanceMethod yX0_amountNow, Cond.initialized RX0, Cond.selects RX0 yX0_amountNow yX0_amountNow, Cond.code yX0_amountNow cX0_amountNow 1 (some .int), Cond.fieldLink RX0 18 "CapitalReckoner$Exposure" "drawn" "I", Cond.fieldLink RX0 21 "CapitalReckoner$Exposure" "promised" "I", Cond.static yX3_percentOf, Cond.code yX3_percentOf cX3_percentOf 2 (some .int), Cond.constantLong RX3 218 (100), Cond.instanceMethod yX1_valueFor, Cond.initialized RX1, Cond.selects RX1 yX1_valueFor yX1_valueFor, Cond.code yX1_valueFor cX1_valueFor 3 (some .int), Cond.fieldLink RX1 9 "CapitalReckoner$Piece" "amount" "I", Cond.fieldLink RX1 15 "CapitalReckoner$Piece" "haircut" "I", Cond.fieldLink RX1 18 "CapitalReckoner$Piece" "currency" "I", Cond.fieldLink RX1 21 "CapitalReckoner$Piece" "days" "I", Cond.methodLink RX3 183 yX3_weightedOf]
def wsX3_bare_r4 : List Cond := [Cond.instanceMethod yX3_weightedOf, Cond.selects RX3 yX3_weightedOf yX3_weightedOf, Cond.code yX3_weightedOf cX3_weightedOf 6 (some .int), Cond.fieldLink RX3 7 "CapitalReckoner" "weights" "[I", Cond.methodLink RX3 224 Lib.Math.min.name, Cond.methodLink RX3 68 yX3_at, Cond.static yX3_at, Cond.code yX3_at cX3_at 2 (some .int), Cond.methodLink RX3 198 yX3_percentOf, Cond.instanceMethod yX2_setWeighted, Cond.selects RX2 yX2_setWeighted yX2_setWeighted, Cond.code yX2_setWeighted cX2_setWeighted 4 none, Cond.fieldLink RX2 15 "CapitalReckoner$Search" "weightedBySet" "[I", Cond.instanceMethod yX2_findLeast, Cond.selects RX2 yX2_findLeast yX2_findLeast, Cond.code yX2_findLeast cX2_findLeast 3 none, Cond.fieldLink RX2 25 "CapitalReckoner$Search" "least" "[J", Cond.methodLink RX2 57 yX2_digitsOf, Cond.static yX2_digitsOf, Cond.code yX2_digitsOf cX2_digitsOf 5 (some .long), Cond.methodLink RX2 53 yX2_digitShift, Cond.static yX2_digitShift, Cond.code yX2_digitShift cX2_digitShift 1 (some .int), Cond.methodLink RX2 61 yX2_fillPrices]
def wsX3_bare_r5 : List Cond := [Cond.instanceMethod yX2_fillPrices, Cond.selects RX2 yX2_fillPrices yX2_fillPrices, Cond.code yX2_fillPrices cX2_fillPrices 3 none, Cond.fieldLink RX2 21 "CapitalReckoner$Search" "prices" "[J", Cond.methodLink RX2 68 yX2_weightedWith, Cond.instanceMethod yX2_weightedWith, Cond.selects RX2 yX2_weightedWith yX2_weightedWith, Cond.code yX2_weightedWith cX2_weightedWith 3 (some .int), Cond.methodLink RX2 65 yX2_leastOf, Cond.instanceMethod yX2_leastOf, Cond.selects RX2 yX2_leastOf yX2_leastOf, Cond.code yX2_leastOf cX2_leastOf 6 (some .long), Cond.methodLink RX2 78 Lib.MathLoose.min_long.x, Cond.static Lib.MathLoose.min_long.x, Cond.code Lib.MathLoose.min_long.x Lib.MathLoose.min_long.code 4 (some .long), Cond.methodLink RX2 71 yX2_priceOf, Cond.instanceMethod yX2_priceOf, Cond.selects RX2 yX2_priceOf yX2_priceOf, Cond.code yX2_priceOf cX2_priceOf 2 (some .long), Cond.methodLink RX2 75 yX2_leastKey, Cond.instanceMethod yX2_leastKey, Cond.selects RX2 yX2_leastKey yX2_leastKey, Cond.code yX2_leastKey cX2_leastKey 2 (some .long), Cond.instanceMethod yX2_givenSet]
def wsX3_bare_r6 : List Cond := [Cond.selects RX2 yX2_givenSet yX2_givenSet, Cond.code yX2_givenSet cX2_givenSet 4 (some .int), Cond.methodLink RX2 89 yX2_takerOf, Cond.instanceMethod yX2_takerOf, Cond.selects RX2 yX2_takerOf yX2_takerOf, Cond.code yX2_takerOf cX2_takerOf 3 (some .int), Cond.methodLink RX2 85 yX2_bestKey, Cond.instanceMethod yX2_bestKey, Cond.selects RX2 yX2_bestKey yX2_bestKey, Cond.code yX2_bestKey cX2_bestKey 1 (some .long), Cond.methodLink RX2 81 yX2_allGifts, Cond.instanceMethod yX2_allGifts, Cond.selects RX2 yX2_allGifts yX2_allGifts, Cond.code yX2_allGifts cX2_allGifts 1 (some .int)]
def wsX3_bare : List Cond := .code yX3_bare cX3_bare 3 (some .int) :: ((wsX3_bare_r1 ++ (wsX3_bare_r2 ++ (wsX3_bare_r3 ++ (wsX3_bare_r4 ++ (wsX3_bare_r5 ++ wsX3_bare_r6))))) ++ wsX30 ++ wsX20 ++ wsX10 ++ wsX00 ++ (vx_atS RX3 56 "java/lang/IndexOutOfBoundsException" ["java/lang/RuntimeException", "java/lang/Exception"]).filter goodWord)
def wsX3_weighted_r1 : List Cond := [Cond.classLink RX3 52 "java/lang/IndexOutOfBoundsException", Cond.initialized "java/lang/IndexOutOfBoundsException", Cond.fieldLink RX3 31 "CapitalReckoner" "search" "LCapitalReckoner$Search;", Cond.methodLink RX3 105 yX3_exposureAt, Cond.instanceMethod yX3_exposureAt, Cond.selects RX3 yX3_exposureAt yX3_exposureAt, Cond.initialized RX3, Cond.code yX3_exposureAt cX3_exposureAt 2 (some (.object "CapitalReckoner$Exposure")), Cond.fieldLink RX3 18 "CapitalReckoner" "book" "[LCapitalReckoner$Exposure;", Cond.methodLink RX3 169 yX3_findBest, Cond.instanceMethod yX3_findBest, Cond.selects RX3 yX3_findBest yX3_findBest, Cond.code yX3_findBest cX3_findBest 1 none, Cond.methodLink RX3 189 yX3_fillSearch, Cond.instanceMethod yX3_fillSearch, Cond.selects RX3 yX3_fillSearch yX3_fillSearch, Cond.code yX3_fillSearch cX3_fillSearch 4 none, Cond.fieldLink RX3 35 "CapitalReckoner" "exposureCount" "I", Cond.fieldLink RX3 39 "CapitalReckoner" "pieceCount" "I", Cond.instanceMethod yX2_begin, Cond.initialized RX2, Cond.selects RX2 yX2_begin yX2_begin, Cond.code yX2_begin cX2_begin 3 none, Cond.methodLink RX2 28 Lib.Math.min.name]
def wsX3_weighted_r2 : List Cond := [Cond.static Lib.Math.min.name, Cond.initialized "java/lang/Math", Cond.code Lib.Math.min.name Lib.Math.min.code 2 (some .int), Cond.fieldLink RX2 34 "CapitalReckoner$Search" "takers" "I", Cond.fieldLink RX2 38 "CapitalReckoner$Search" "gifts" "I", Cond.methodLink RX3 237 yX3_usableFor, Cond.instanceMethod yX3_usableFor, Cond.selects RX3 yX3_usableFor yX3_usableFor, Cond.code yX3_usableFor cX3_usableFor 5 (some .int), Cond.methodLink RX3 149 yX3_pieceAt, Cond.instanceMethod yX3_pieceAt, Cond.selects RX3 yX3_pieceAt yX3_pieceAt, Cond.code yX3_pieceAt cX3_pieceAt 2 (some (.object "CapitalReckoner$Piece")), Cond.fieldLink RX3 24 "CapitalReckoner" "collateral" "[LCapitalReckoner$Piece;", Cond.methodLink RX3 220 yX3_has, Cond.static yX3_has, Cond.code yX3_has cX3_has 2 (some .boolean), Cond.instanceMethod yX2_setUsable, Cond.selects RX2 yX2_setUsable yX2_setUsable, Cond.code yX2_setUsable cX2_setUsable 3 none, Cond.fieldLink RX2 11 "CapitalReckoner$Search" "usable" "[I", Cond.static yX3_put, Cond.code yX3_put cX3_put 3 none, Cond.methodLink RX3 179 yX3_bareWith]
def wsX3_weighted_r3 : List Cond := [Cond.instanceMethod yX3_bareWith, Cond.selects RX3 yX3_bareWith yX3_bareWith, Cond.code yX3_bareWith cX3_bareWith 6 (some .int), Cond.methodLink RX3 208 Lib.Math.max.name, Cond.static Lib.Math.max.name, Cond.code Lib.Math.max.name Lib.Math.max.code 2 (some .int), Cond.instanceMethod yX0_amountNow, Cond.initialized RX0, Cond.selects RX0 yX0_amountNow yX0_amountNow, Cond.code yX0_amountNow cX0_amountNow 1 (some .int), Cond.fieldLink RX0 18 "CapitalReckoner$Exposure" "drawn" "I", Cond.fieldLink RX0 21 "CapitalReckoner$Exposure" "promised" "I", Cond.static yX3_percentOf, Cond.code yX3_percentOf cX3_percentOf 2 (some .int), Cond.constantLong RX3 218 (100), Cond.instanceMethod yX1_valueFor, Cond.initialized RX1, Cond.selects RX1 yX1_valueFor yX1_valueFor, Cond.code yX1_valueFor cX1_valueFor 3 (some .int), Cond.fieldLink RX1 9 "CapitalReckoner$Piece" "amount" "I", Cond.fieldLink RX1 15 "CapitalReckoner$Piece" "haircut" "I", Cond.fieldLink RX1 18 "CapitalReckoner$Piece" "currency" "I", Cond.fieldLink RX1 21 "CapitalReckoner$Piece" "days" "I", Cond.methodLink RX3 183 yX3_weightedOf]
def wsX3_weighted_r4 : List Cond := [Cond.instanceMethod yX3_weightedOf, Cond.selects RX3 yX3_weightedOf yX3_weightedOf, Cond.code yX3_weightedOf cX3_weightedOf 6 (some .int), Cond.fieldLink RX3 7 "CapitalReckoner" "weights" "[I", Cond.methodLink RX3 224 Lib.Math.min.name, Cond.methodLink RX3 68 yX3_at, Cond.static yX3_at, Cond.code yX3_at cX3_at 2 (some .int), Cond.methodLink RX3 198 yX3_percentOf, Cond.instanceMethod yX2_setWeighted, Cond.selects RX2 yX2_setWeighted yX2_setWeighted, Cond.code yX2_setWeighted cX2_setWeighted 4 none, Cond.fieldLink RX2 15 "CapitalReckoner$Search" "weightedBySet" "[I", Cond.instanceMethod yX2_findLeast, Cond.selects RX2 yX2_findLeast yX2_findLeast, Cond.code yX2_findLeast cX2_findLeast 3 none, Cond.fieldLink RX2 25 "CapitalReckoner$Search" "least" "[J", Cond.methodLink RX2 57 yX2_digitsOf, Cond.static yX2_digitsOf, Cond.code yX2_digitsOf cX2_digitsOf 5 (some .long), Cond.methodLink RX2 53 yX2_digitShift, Cond.static yX2_digitShift, Cond.code yX2_digitShift cX2_digitShift 1 (some .int), Cond.methodLink RX2 61 yX2_fillPrices]
def wsX3_weighted_r5 : List Cond := [Cond.instanceMethod yX2_fillPrices, Cond.selects RX2 yX2_fillPrices yX2_fillPrices, Cond.code yX2_fillPrices cX2_fillPrices 3 none, Cond.fieldLink RX2 21 "CapitalReckoner$Search" "prices" "[J", Cond.methodLink RX2 68 yX2_weightedWith, Cond.instanceMethod yX2_weightedWith, Cond.selects RX2 yX2_weightedWith yX2_weightedWith, Cond.code yX2_weightedWith cX2_weightedWith 3 (some .int), Cond.methodLink RX2 65 yX2_leastOf, Cond.instanceMethod yX2_leastOf, Cond.selects RX2 yX2_leastOf yX2_leastOf, Cond.code yX2_leastOf cX2_leastOf 6 (some .long), Cond.methodLink RX2 78 Lib.MathLoose.min_long.x, Cond.static Lib.MathLoose.min_long.x, Cond.code Lib.MathLoose.min_long.x Lib.MathLoose.min_long.code 4 (some .long), Cond.methodLink RX2 71 yX2_priceOf, Cond.instanceMethod yX2_priceOf, Cond.selects RX2 yX2_priceOf yX2_priceOf, Cond.code yX2_priceOf cX2_priceOf 2 (some .long), Cond.methodLink RX2 75 yX2_leastKey, Cond.instanceMethod yX2_leastKey, Cond.selects RX2 yX2_leastKey yX2_leastKey, Cond.code yX2_leastKey cX2_leastKey 2 (some .long), Cond.instanceMethod yX2_givenSet]
def wsX3_weighted_r6 : List Cond := [Cond.selects RX2 yX2_givenSet yX2_givenSet, Cond.code yX2_givenSet cX2_givenSet 4 (some .int), Cond.methodLink RX2 89 yX2_takerOf, Cond.instanceMethod yX2_takerOf, Cond.selects RX2 yX2_takerOf yX2_takerOf, Cond.code yX2_takerOf cX2_takerOf 3 (some .int), Cond.methodLink RX2 85 yX2_bestKey, Cond.instanceMethod yX2_bestKey, Cond.selects RX2 yX2_bestKey yX2_bestKey, Cond.code yX2_bestKey cX2_bestKey 1 (some .long), Cond.methodLink RX2 81 yX2_allGifts, Cond.instanceMethod yX2_allGifts, Cond.selects RX2 yX2_allGifts yX2_allGifts, Cond.code yX2_allGifts cX2_allGifts 1 (some .int)]
def wsX3_weighted : List Cond := .code yX3_weighted cX3_weighted 3 (some .int) :: ((wsX3_weighted_r1 ++ (wsX3_weighted_r2 ++ (wsX3_weighted_r3 ++ (wsX3_weighted_r4 ++ (wsX3_weighted_r5 ++ wsX3_weighted_r6))))) ++ wsX30 ++ wsX20 ++ wsX10 ++ wsX00 ++ (vx_atS RX3 56 "java/lang/IndexOutOfBoundsException" ["java/lang/RuntimeException", "java/lang/Exception"]).filter goodWord)
def wsX3_whole_r1 : List Cond := [Cond.fieldLink RX3 31 "CapitalReckoner" "search" "LCapitalReckoner$Search;", Cond.methodLink RX3 169 yX3_findBest, Cond.instanceMethod yX3_findBest, Cond.selects RX3 yX3_findBest yX3_findBest, Cond.initialized RX3, Cond.code yX3_findBest cX3_findBest 1 none, Cond.methodLink RX3 189 yX3_fillSearch, Cond.instanceMethod yX3_fillSearch, Cond.selects RX3 yX3_fillSearch yX3_fillSearch, Cond.code yX3_fillSearch cX3_fillSearch 4 none, Cond.fieldLink RX3 35 "CapitalReckoner" "exposureCount" "I", Cond.fieldLink RX3 39 "CapitalReckoner" "pieceCount" "I", Cond.instanceMethod yX2_begin, Cond.initialized RX2, Cond.selects RX2 yX2_begin yX2_begin, Cond.code yX2_begin cX2_begin 3 none, Cond.methodLink RX2 28 Lib.Math.min.name, Cond.static Lib.Math.min.name, Cond.initialized "java/lang/Math", Cond.code Lib.Math.min.name Lib.Math.min.code 2 (some .int), Cond.fieldLink RX2 34 "CapitalReckoner$Search" "takers" "I", Cond.fieldLink RX2 38 "CapitalReckoner$Search" "gifts" "I", Cond.methodLink RX3 105 yX3_exposureAt, Cond.instanceMethod yX3_exposureAt]
def wsX3_whole_r2 : List Cond := [Cond.selects RX3 yX3_exposureAt yX3_exposureAt, Cond.code yX3_exposureAt cX3_exposureAt 2 (some (.object "CapitalReckoner$Exposure")), Cond.fieldLink RX3 18 "CapitalReckoner" "book" "[LCapitalReckoner$Exposure;", Cond.methodLink RX3 237 yX3_usableFor, Cond.instanceMethod yX3_usableFor, Cond.selects RX3 yX3_usableFor yX3_usableFor, Cond.code yX3_usableFor cX3_usableFor 5 (some .int), Cond.methodLink RX3 149 yX3_pieceAt, Cond.instanceMethod yX3_pieceAt, Cond.selects RX3 yX3_pieceAt yX3_pieceAt, Cond.code yX3_pieceAt cX3_pieceAt 2 (some (.object "CapitalReckoner$Piece")), Cond.fieldLink RX3 24 "CapitalReckoner" "collateral" "[LCapitalReckoner$Piece;", Cond.methodLink RX3 220 yX3_has, Cond.static yX3_has, Cond.code yX3_has cX3_has 2 (some .boolean), Cond.instanceMethod yX2_setUsable, Cond.selects RX2 yX2_setUsable yX2_setUsable, Cond.code yX2_setUsable cX2_setUsable 3 none, Cond.fieldLink RX2 11 "CapitalReckoner$Search" "usable" "[I", Cond.static yX3_put, Cond.code yX3_put cX3_put 3 none, Cond.methodLink RX3 179 yX3_bareWith, Cond.instanceMethod yX3_bareWith, Cond.selects RX3 yX3_bareWith yX3_bareWith]
def wsX3_whole_r3 : List Cond := [Cond.code yX3_bareWith cX3_bareWith 6 (some .int), Cond.methodLink RX3 208 Lib.Math.max.name, Cond.static Lib.Math.max.name, Cond.code Lib.Math.max.name Lib.Math.max.code 2 (some .int), Cond.instanceMethod yX0_amountNow, Cond.initialized RX0, Cond.selects RX0 yX0_amountNow yX0_amountNow, Cond.code yX0_amountNow cX0_amountNow 1 (some .int), Cond.fieldLink RX0 18 "CapitalReckoner$Exposure" "drawn" "I", Cond.fieldLink RX0 21 "CapitalReckoner$Exposure" "promised" "I", Cond.static yX3_percentOf, Cond.code yX3_percentOf cX3_percentOf 2 (some .int), Cond.constantLong RX3 218 (100), Cond.instanceMethod yX1_valueFor, Cond.initialized RX1, Cond.selects RX1 yX1_valueFor yX1_valueFor, Cond.code yX1_valueFor cX1_valueFor 3 (some .int), Cond.fieldLink RX1 9 "CapitalReckoner$Piece" "amount" "I", Cond.fieldLink RX1 15 "CapitalReckoner$Piece" "haircut" "I", Cond.fieldLink RX1 18 "CapitalReckoner$Piece" "currency" "I", Cond.fieldLink RX1 21 "CapitalReckoner$Piece" "days" "I", Cond.methodLink RX3 183 yX3_weightedOf, Cond.instanceMethod yX3_weightedOf, Cond.selects RX3 yX3_weightedOf yX3_weightedOf]
def wsX3_whole_r4 : List Cond := [Cond.code yX3_weightedOf cX3_weightedOf 6 (some .int), Cond.fieldLink RX3 7 "CapitalReckoner" "weights" "[I", Cond.methodLink RX3 224 Lib.Math.min.name, Cond.methodLink RX3 68 yX3_at, Cond.static yX3_at, Cond.code yX3_at cX3_at 2 (some .int), Cond.methodLink RX3 198 yX3_percentOf, Cond.instanceMethod yX2_setWeighted, Cond.selects RX2 yX2_setWeighted yX2_setWeighted, Cond.code yX2_setWeighted cX2_setWeighted 4 none, Cond.fieldLink RX2 15 "CapitalReckoner$Search" "weightedBySet" "[I", Cond.instanceMethod yX2_findLeast, Cond.selects RX2 yX2_findLeast yX2_findLeast, Cond.code yX2_findLeast cX2_findLeast 3 none, Cond.fieldLink RX2 25 "CapitalReckoner$Search" "least" "[J", Cond.methodLink RX2 57 yX2_digitsOf, Cond.static yX2_digitsOf, Cond.code yX2_digitsOf cX2_digitsOf 5 (some .long), Cond.methodLink RX2 53 yX2_digitShift, Cond.static yX2_digitShift, Cond.code yX2_digitShift cX2_digitShift 1 (some .int), Cond.methodLink RX2 61 yX2_fillPrices, Cond.instanceMethod yX2_fillPrices, Cond.selects RX2 yX2_fillPrices yX2_fillPrices]
def wsX3_whole_r5 : List Cond := [Cond.code yX2_fillPrices cX2_fillPrices 3 none, Cond.fieldLink RX2 21 "CapitalReckoner$Search" "prices" "[J", Cond.methodLink RX2 68 yX2_weightedWith, Cond.instanceMethod yX2_weightedWith, Cond.selects RX2 yX2_weightedWith yX2_weightedWith, Cond.code yX2_weightedWith cX2_weightedWith 3 (some .int), Cond.methodLink RX2 65 yX2_leastOf, Cond.instanceMethod yX2_leastOf, Cond.selects RX2 yX2_leastOf yX2_leastOf, Cond.code yX2_leastOf cX2_leastOf 6 (some .long), Cond.methodLink RX2 78 Lib.MathLoose.min_long.x, Cond.static Lib.MathLoose.min_long.x, Cond.code Lib.MathLoose.min_long.x Lib.MathLoose.min_long.code 4 (some .long), Cond.methodLink RX2 71 yX2_priceOf, Cond.instanceMethod yX2_priceOf, Cond.selects RX2 yX2_priceOf yX2_priceOf, Cond.code yX2_priceOf cX2_priceOf 2 (some .long), Cond.methodLink RX2 75 yX2_leastKey, Cond.instanceMethod yX2_leastKey, Cond.selects RX2 yX2_leastKey yX2_leastKey, Cond.code yX2_leastKey cX2_leastKey 2 (some .long), Cond.instanceMethod yX2_bestWhole, Cond.selects RX2 yX2_bestWhole yX2_bestWhole, Cond.code yX2_bestWhole cX2_bestWhole 1 (some .int)]
def wsX3_whole_r6 : List Cond := [Cond.methodLink RX2 85 yX2_bestKey, Cond.instanceMethod yX2_bestKey, Cond.selects RX2 yX2_bestKey yX2_bestKey, Cond.code yX2_bestKey cX2_bestKey 1 (some .long), Cond.methodLink RX2 81 yX2_allGifts, Cond.instanceMethod yX2_allGifts, Cond.selects RX2 yX2_allGifts yX2_allGifts, Cond.code yX2_allGifts cX2_allGifts 1 (some .int)]
def wsX3_whole : List Cond := .code yX3_whole cX3_whole 1 (some .int) :: ((wsX3_whole_r1 ++ (wsX3_whole_r2 ++ (wsX3_whole_r3 ++ (wsX3_whole_r4 ++ (wsX3_whole_r5 ++ wsX3_whole_r6))))) ++ wsX30 ++ wsX20 ++ wsX10 ++ wsX00)
def wsX3_wholeByTrying_r1 : List Cond := [Cond.fieldLink RX3 31 "CapitalReckoner" "search" "LCapitalReckoner$Search;", Cond.methodLink RX3 189 yX3_fillSearch, Cond.instanceMethod yX3_fillSearch, Cond.selects RX3 yX3_fillSearch yX3_fillSearch, Cond.initialized RX3, Cond.code yX3_fillSearch cX3_fillSearch 4 none, Cond.fieldLink RX3 35 "CapitalReckoner" "exposureCount" "I", Cond.fieldLink RX3 39 "CapitalReckoner" "pieceCount" "I", Cond.instanceMethod yX2_begin, Cond.initialized RX2, Cond.selects RX2 yX2_begin yX2_begin, Cond.code yX2_begin cX2_begin 3 none, Cond.methodLink RX2 28 Lib.Math.min.name, Cond.static Lib.Math.min.name, Cond.initialized "java/lang/Math", Cond.code Lib.Math.min.name Lib.Math.min.code 2 (some .int), Cond.fieldLink RX2 34 "CapitalReckoner$Search" "takers" "I", Cond.fieldLink RX2 38 "CapitalReckoner$Search" "gifts" "I", Cond.methodLink RX3 105 yX3_exposureAt, Cond.instanceMethod yX3_exposureAt, Cond.selects RX3 yX3_exposureAt yX3_exposureAt, Cond.code yX3_exposureAt cX3_exposureAt 2 (some (.object "CapitalReckoner$Exposure")), Cond.fieldLink RX3 18 "CapitalReckoner" "book" "[LCapitalReckoner$Exposure;", Cond.methodLink RX3 237 yX3_usableFor]
def wsX3_wholeByTrying_r2 : List Cond := [Cond.instanceMethod yX3_usableFor, Cond.selects RX3 yX3_usableFor yX3_usableFor, Cond.code yX3_usableFor cX3_usableFor 5 (some .int), Cond.methodLink RX3 149 yX3_pieceAt, Cond.instanceMethod yX3_pieceAt, Cond.selects RX3 yX3_pieceAt yX3_pieceAt, Cond.code yX3_pieceAt cX3_pieceAt 2 (some (.object "CapitalReckoner$Piece")), Cond.fieldLink RX3 24 "CapitalReckoner" "collateral" "[LCapitalReckoner$Piece;", Cond.methodLink RX3 220 yX3_has, Cond.static yX3_has, Cond.code yX3_has cX3_has 2 (some .boolean), Cond.instanceMethod yX2_setUsable, Cond.selects RX2 yX2_setUsable yX2_setUsable, Cond.code yX2_setUsable cX2_setUsable 3 none, Cond.fieldLink RX2 11 "CapitalReckoner$Search" "usable" "[I", Cond.static yX3_put, Cond.code yX3_put cX3_put 3 none, Cond.methodLink RX3 179 yX3_bareWith, Cond.instanceMethod yX3_bareWith, Cond.selects RX3 yX3_bareWith yX3_bareWith, Cond.code yX3_bareWith cX3_bareWith 6 (some .int), Cond.methodLink RX3 208 Lib.Math.max.name, Cond.static Lib.Math.max.name, Cond.code Lib.Math.max.name Lib.Math.max.code 2 (some .int)]
def wsX3_wholeByTrying_r3 : List Cond := [Cond.instanceMethod yX0_amountNow, Cond.initialized RX0, Cond.selects RX0 yX0_amountNow yX0_amountNow, Cond.code yX0_amountNow cX0_amountNow 1 (some .int), Cond.fieldLink RX0 18 "CapitalReckoner$Exposure" "drawn" "I", Cond.fieldLink RX0 21 "CapitalReckoner$Exposure" "promised" "I", Cond.static yX3_percentOf, Cond.code yX3_percentOf cX3_percentOf 2 (some .int), Cond.constantLong RX3 218 (100), Cond.instanceMethod yX1_valueFor, Cond.initialized RX1, Cond.selects RX1 yX1_valueFor yX1_valueFor, Cond.code yX1_valueFor cX1_valueFor 3 (some .int), Cond.fieldLink RX1 9 "CapitalReckoner$Piece" "amount" "I", Cond.fieldLink RX1 15 "CapitalReckoner$Piece" "haircut" "I", Cond.fieldLink RX1 18 "CapitalReckoner$Piece" "currency" "I", Cond.fieldLink RX1 21 "CapitalReckoner$Piece" "days" "I", Cond.methodLink RX3 183 yX3_weightedOf, Cond.instanceMethod yX3_weightedOf, Cond.selects RX3 yX3_weightedOf yX3_weightedOf, Cond.code yX3_weightedOf cX3_weightedOf 6 (some .int), Cond.fieldLink RX3 7 "CapitalReckoner" "weights" "[I", Cond.methodLink RX3 224 Lib.Math.min.name, Cond.methodLink RX3 68 yX3_at]
def wsX3_wholeByTrying_r4 : List Cond := [Cond.static yX3_at, Cond.code yX3_at cX3_at 2 (some .int), Cond.methodLink RX3 198 yX3_percentOf, Cond.instanceMethod yX2_setWeighted, Cond.selects RX2 yX2_setWeighted yX2_setWeighted, Cond.code yX2_setWeighted cX2_setWeighted 4 none, Cond.fieldLink RX2 15 "CapitalReckoner$Search" "weightedBySet" "[I", Cond.instanceMethod yX2_triedWhole, Cond.selects RX2 yX2_triedWhole yX2_triedWhole, Cond.code yX2_triedWhole cX2_triedWhole 3 (some .int), Cond.fieldLink RX2 18 "CapitalReckoner$Search" "tried" "[I", Cond.methodLink RX2 68 yX2_weightedWith, Cond.instanceMethod yX2_weightedWith, Cond.selects RX2 yX2_weightedWith yX2_weightedWith, Cond.code yX2_weightedWith cX2_weightedWith 3 (some .int), Cond.methodLink RX2 92 yX2_tryFrom, Cond.static yX2_tryFrom, Cond.code yX2_tryFrom cX2_tryFrom 8 (some .int)]
def wsX3_wholeByTrying : List Cond := .code yX3_wholeByTrying cX3_wholeByTrying 1 (some .int) :: ((wsX3_wholeByTrying_r1 ++ (wsX3_wholeByTrying_r2 ++ (wsX3_wholeByTrying_r3 ++ wsX3_wholeByTrying_r4))) ++ wsX30 ++ wsX20 ++ wsX10 ++ wsX00)
def wsX3_worth_r1 : List Cond := [Cond.classLink RX3 52 "java/lang/IndexOutOfBoundsException", Cond.initialized "java/lang/IndexOutOfBoundsException", Cond.fieldLink RX3 31 "CapitalReckoner" "search" "LCapitalReckoner$Search;", Cond.methodLink RX3 149 yX3_pieceAt, Cond.instanceMethod yX3_pieceAt, Cond.selects RX3 yX3_pieceAt yX3_pieceAt, Cond.initialized RX3, Cond.code yX3_pieceAt cX3_pieceAt 2 (some (.object "CapitalReckoner$Piece")), Cond.fieldLink RX3 24 "CapitalReckoner" "collateral" "[LCapitalReckoner$Piece;", Cond.methodLink RX3 169 yX3_findBest, Cond.instanceMethod yX3_findBest, Cond.selects RX3 yX3_findBest yX3_findBest, Cond.code yX3_findBest cX3_findBest 1 none, Cond.methodLink RX3 189 yX3_fillSearch, Cond.instanceMethod yX3_fillSearch, Cond.selects RX3 yX3_fillSearch yX3_fillSearch, Cond.code yX3_fillSearch cX3_fillSearch 4 none, Cond.fieldLink RX3 35 "CapitalReckoner" "exposureCount" "I", Cond.fieldLink RX3 39 "CapitalReckoner" "pieceCount" "I", Cond.instanceMethod yX2_begin, Cond.initialized RX2, Cond.selects RX2 yX2_begin yX2_begin, Cond.code yX2_begin cX2_begin 3 none, Cond.methodLink RX2 28 Lib.Math.min.name]
def wsX3_worth_r2 : List Cond := [Cond.static Lib.Math.min.name, Cond.initialized "java/lang/Math", Cond.code Lib.Math.min.name Lib.Math.min.code 2 (some .int), Cond.fieldLink RX2 34 "CapitalReckoner$Search" "takers" "I", Cond.fieldLink RX2 38 "CapitalReckoner$Search" "gifts" "I", Cond.methodLink RX3 105 yX3_exposureAt, Cond.instanceMethod yX3_exposureAt, Cond.selects RX3 yX3_exposureAt yX3_exposureAt, Cond.code yX3_exposureAt cX3_exposureAt 2 (some (.object "CapitalReckoner$Exposure")), Cond.fieldLink RX3 18 "CapitalReckoner" "book" "[LCapitalReckoner$Exposure;", Cond.methodLink RX3 237 yX3_usableFor, Cond.instanceMethod yX3_usableFor, Cond.selects RX3 yX3_usableFor yX3_usableFor, Cond.code yX3_usableFor cX3_usableFor 5 (some .int), Cond.methodLink RX3 220 yX3_has, Cond.static yX3_has, Cond.code yX3_has cX3_has 2 (some .boolean), Cond.instanceMethod yX2_setUsable, Cond.selects RX2 yX2_setUsable yX2_setUsable, Cond.code yX2_setUsable cX2_setUsable 3 none, Cond.fieldLink RX2 11 "CapitalReckoner$Search" "usable" "[I", Cond.static yX3_put, Cond.code yX3_put cX3_put 3 none, Cond.methodLink RX3 179 yX3_bareWith]
def wsX3_worth_r3 : List Cond := [Cond.instanceMethod yX3_bareWith, Cond.selects RX3 yX3_bareWith yX3_bareWith, Cond.code yX3_bareWith cX3_bareWith 6 (some .int), Cond.methodLink RX3 208 Lib.Math.max.name, Cond.static Lib.Math.max.name, Cond.code Lib.Math.max.name Lib.Math.max.code 2 (some .int), Cond.instanceMethod yX0_amountNow, Cond.initialized RX0, Cond.selects RX0 yX0_amountNow yX0_amountNow, Cond.code yX0_amountNow cX0_amountNow 1 (some .int), Cond.fieldLink RX0 18 "CapitalReckoner$Exposure" "drawn" "I", Cond.fieldLink RX0 21 "CapitalReckoner$Exposure" "promised" "I", Cond.static yX3_percentOf, Cond.code yX3_percentOf cX3_percentOf 2 (some .int), Cond.constantLong RX3 218 (100), Cond.instanceMethod yX1_valueFor, Cond.initialized RX1, Cond.selects RX1 yX1_valueFor yX1_valueFor, Cond.code yX1_valueFor cX1_valueFor 3 (some .int), Cond.fieldLink RX1 9 "CapitalReckoner$Piece" "amount" "I", Cond.fieldLink RX1 15 "CapitalReckoner$Piece" "haircut" "I", Cond.fieldLink RX1 18 "CapitalReckoner$Piece" "currency" "I", Cond.fieldLink RX1 21 "CapitalReckoner$Piece" "days" "I", Cond.methodLink RX3 183 yX3_weightedOf]
def wsX3_worth_r4 : List Cond := [Cond.instanceMethod yX3_weightedOf, Cond.selects RX3 yX3_weightedOf yX3_weightedOf, Cond.code yX3_weightedOf cX3_weightedOf 6 (some .int), Cond.fieldLink RX3 7 "CapitalReckoner" "weights" "[I", Cond.methodLink RX3 224 Lib.Math.min.name, Cond.methodLink RX3 68 yX3_at, Cond.static yX3_at, Cond.code yX3_at cX3_at 2 (some .int), Cond.methodLink RX3 198 yX3_percentOf, Cond.instanceMethod yX2_setWeighted, Cond.selects RX2 yX2_setWeighted yX2_setWeighted, Cond.code yX2_setWeighted cX2_setWeighted 4 none, Cond.fieldLink RX2 15 "CapitalReckoner$Search" "weightedBySet" "[I", Cond.instanceMethod yX2_findLeast, Cond.selects RX2 yX2_findLeast yX2_findLeast, Cond.code yX2_findLeast cX2_findLeast 3 none, Cond.fieldLink RX2 25 "CapitalReckoner$Search" "least" "[J", Cond.methodLink RX2 57 yX2_digitsOf, Cond.static yX2_digitsOf, Cond.code yX2_digitsOf cX2_digitsOf 5 (some .long), Cond.methodLink RX2 53 yX2_digitShift, Cond.static yX2_digitShift, Cond.code yX2_digitShift cX2_digitShift 1 (some .int), Cond.methodLink RX2 61 yX2_fillPrices]
def wsX3_worth_r5 : List Cond := [Cond.instanceMethod yX2_fillPrices, Cond.selects RX2 yX2_fillPrices yX2_fillPrices, Cond.code yX2_fillPrices cX2_fillPrices 3 none, Cond.fieldLink RX2 21 "CapitalReckoner$Search" "prices" "[J", Cond.methodLink RX2 68 yX2_weightedWith, Cond.instanceMethod yX2_weightedWith, Cond.selects RX2 yX2_weightedWith yX2_weightedWith, Cond.code yX2_weightedWith cX2_weightedWith 3 (some .int), Cond.methodLink RX2 65 yX2_leastOf, Cond.instanceMethod yX2_leastOf, Cond.selects RX2 yX2_leastOf yX2_leastOf, Cond.code yX2_leastOf cX2_leastOf 6 (some .long), Cond.methodLink RX2 78 Lib.MathLoose.min_long.x, Cond.static Lib.MathLoose.min_long.x, Cond.code Lib.MathLoose.min_long.x Lib.MathLoose.min_long.code 4 (some .long), Cond.methodLink RX2 71 yX2_priceOf, Cond.instanceMethod yX2_priceOf, Cond.selects RX2 yX2_priceOf yX2_priceOf, Cond.code yX2_priceOf cX2_priceOf 2 (some .long), Cond.methodLink RX2 75 yX2_leastKey, Cond.instanceMethod yX2_leastKey, Cond.selects RX2 yX2_leastKey yX2_leastKey, Cond.code yX2_leastKey cX2_leastKey 2 (some .long), Cond.instanceMethod yX2_wholeWithout]
def wsX3_worth_r6 : List Cond := [Cond.selects RX2 yX2_wholeWithout yX2_wholeWithout, Cond.code yX2_wholeWithout cX2_wholeWithout 2 (some .int), Cond.methodLink RX2 81 yX2_allGifts, Cond.instanceMethod yX2_allGifts, Cond.selects RX2 yX2_allGifts yX2_allGifts, Cond.code yX2_allGifts cX2_allGifts 1 (some .int), Cond.instanceMethod yX2_bestWhole, Cond.selects RX2 yX2_bestWhole yX2_bestWhole, Cond.code yX2_bestWhole cX2_bestWhole 1 (some .int), Cond.methodLink RX2 85 yX2_bestKey, Cond.instanceMethod yX2_bestKey, Cond.selects RX2 yX2_bestKey yX2_bestKey, Cond.code yX2_bestKey cX2_bestKey 1 (some .long)]
def wsX3_worth : List Cond := .code yX3_worth cX3_worth 2 (some .int) :: ((wsX3_worth_r1 ++ (wsX3_worth_r2 ++ (wsX3_worth_r3 ++ (wsX3_worth_r4 ++ (wsX3_worth_r5 ++ wsX3_worth_r6))))) ++ wsX30 ++ wsX20 ++ wsX10 ++ wsX00 ++ (vx_atS RX3 56 "java/lang/IndexOutOfBoundsException" ["java/lang/RuntimeException", "java/lang/Exception"]).filter goodWord)
def wsX3_plain : List Cond := .code yX3_plain cX3_plain 4 (some .int) :: ([.fieldLink RX3 35 "CapitalReckoner" "exposureCount" "I", .fieldLink RX3 13 "CapitalReckoner" "plainWeights" "[I", .methodLink RX3 105 yX3_exposureAt, .instanceMethod yX3_exposureAt, .selects RX3 yX3_exposureAt yX3_exposureAt, .initialized RX3, .code yX3_exposureAt cX3_exposureAt 2 (some (.object "CapitalReckoner$Exposure")), .fieldLink RX3 18 "CapitalReckoner" "book" "[LCapitalReckoner$Exposure;", .instanceMethod yX0_amountNow, .initialized RX0, .selects RX0 yX0_amountNow yX0_amountNow, .code yX0_amountNow cX0_amountNow 1 (some .int), .fieldLink RX0 18 "CapitalReckoner$Exposure" "drawn" "I", .fieldLink RX0 21 "CapitalReckoner$Exposure" "promised" "I", .static yX3_percentOf, .code yX3_percentOf cX3_percentOf 2 (some .int), .constantLong RX3 218 (100), .methodLink RX3 68 yX3_at, .static yX3_at, .code yX3_at cX3_at 2 (some .int), .methodLink RX3 198 yX3_percentOf] ++ wsX30 ++ wsX00)
def wsX3_required_r1 : List Cond := [Cond.fieldLink RX3 42 "CapitalReckoner" "floor" "I", Cond.methodLink RX3 208 Lib.Math.max.name, Cond.static Lib.Math.max.name, Cond.initialized "java/lang/Math", Cond.code Lib.Math.max.name Lib.Math.max.code 2 (some .int), Cond.methodLink RX3 202 yX3_whole, Cond.instanceMethod yX3_whole, Cond.selects RX3 yX3_whole yX3_whole, Cond.initialized RX3, Cond.code yX3_whole cX3_whole 1 (some .int), Cond.fieldLink RX3 31 "CapitalReckoner" "search" "LCapitalReckoner$Search;", Cond.methodLink RX3 169 yX3_findBest, Cond.instanceMethod yX3_findBest, Cond.selects RX3 yX3_findBest yX3_findBest, Cond.code yX3_findBest cX3_findBest 1 none, Cond.methodLink RX3 189 yX3_fillSearch, Cond.instanceMethod yX3_fillSearch, Cond.selects RX3 yX3_fillSearch yX3_fillSearch, Cond.code yX3_fillSearch cX3_fillSearch 4 none, Cond.fieldLink RX3 35 "CapitalReckoner" "exposureCount" "I", Cond.fieldLink RX3 39 "CapitalReckoner" "pieceCount" "I", Cond.instanceMethod yX2_begin, Cond.initialized RX2, Cond.selects RX2 yX2_begin yX2_begin]
def wsX3_required_r2 : List Cond := [Cond.code yX2_begin cX2_begin 3 none, Cond.methodLink RX2 28 Lib.Math.min.name, Cond.static Lib.Math.min.name, Cond.code Lib.Math.min.name Lib.Math.min.code 2 (some .int), Cond.fieldLink RX2 34 "CapitalReckoner$Search" "takers" "I", Cond.fieldLink RX2 38 "CapitalReckoner$Search" "gifts" "I", Cond.methodLink RX3 105 yX3_exposureAt, Cond.instanceMethod yX3_exposureAt, Cond.selects RX3 yX3_exposureAt yX3_exposureAt, Cond.code yX3_exposureAt cX3_exposureAt 2 (some (.object "CapitalReckoner$Exposure")), Cond.fieldLink RX3 18 "CapitalReckoner" "book" "[LCapitalReckoner$Exposure;", Cond.methodLink RX3 237 yX3_usableFor, Cond.instanceMethod yX3_usableFor, Cond.selects RX3 yX3_usableFor yX3_usableFor, Cond.code yX3_usableFor cX3_usableFor 5 (some .int), Cond.methodLink RX3 149 yX3_pieceAt, Cond.instanceMethod yX3_pieceAt, Cond.selects RX3 yX3_pieceAt yX3_pieceAt, Cond.code yX3_pieceAt cX3_pieceAt 2 (some (.object "CapitalReckoner$Piece")), Cond.fieldLink RX3 24 "CapitalReckoner" "collateral" "[LCapitalReckoner$Piece;", Cond.methodLink RX3 220 yX3_has, Cond.static yX3_has, Cond.code yX3_has cX3_has 2 (some .boolean), Cond.instanceMethod yX2_setUsable]
def wsX3_required_r3 : List Cond := [Cond.selects RX2 yX2_setUsable yX2_setUsable, Cond.code yX2_setUsable cX2_setUsable 3 none, Cond.fieldLink RX2 11 "CapitalReckoner$Search" "usable" "[I", Cond.static yX3_put, Cond.code yX3_put cX3_put 3 none, Cond.methodLink RX3 179 yX3_bareWith, Cond.instanceMethod yX3_bareWith, Cond.selects RX3 yX3_bareWith yX3_bareWith, Cond.code yX3_bareWith cX3_bareWith 6 (some .int), Cond.instanceMethod yX0_amountNow, Cond.initialized RX0, Cond.selects RX0 yX0_amountNow yX0_amountNow, Cond.code yX0_amountNow cX0_amountNow 1 (some .int), Cond.fieldLink RX0 18 "CapitalReckoner$Exposure" "drawn" "I", Cond.fieldLink RX0 21 "CapitalReckoner$Exposure" "promised" "I", Cond.static yX3_percentOf, Cond.code yX3_percentOf cX3_percentOf 2 (some .int), Cond.constantLong RX3 218 (100), Cond.instanceMethod yX1_valueFor, Cond.initialized RX1, Cond.selects RX1 yX1_valueFor yX1_valueFor, Cond.code yX1_valueFor cX1_valueFor 3 (some .int), Cond.fieldLink RX1 9 "CapitalReckoner$Piece" "amount" "I", Cond.fieldLink RX1 15 "CapitalReckoner$Piece" "haircut" "I"]
def wsX3_required_r4 : List Cond := [Cond.fieldLink RX1 18 "CapitalReckoner$Piece" "currency" "I", Cond.fieldLink RX1 21 "CapitalReckoner$Piece" "days" "I", Cond.methodLink RX3 183 yX3_weightedOf, Cond.instanceMethod yX3_weightedOf, Cond.selects RX3 yX3_weightedOf yX3_weightedOf, Cond.code yX3_weightedOf cX3_weightedOf 6 (some .int), Cond.fieldLink RX3 7 "CapitalReckoner" "weights" "[I", Cond.methodLink RX3 224 Lib.Math.min.name, Cond.methodLink RX3 68 yX3_at, Cond.static yX3_at, Cond.code yX3_at cX3_at 2 (some .int), Cond.methodLink RX3 198 yX3_percentOf, Cond.instanceMethod yX2_setWeighted, Cond.selects RX2 yX2_setWeighted yX2_setWeighted, Cond.code yX2_setWeighted cX2_setWeighted 4 none, Cond.fieldLink RX2 15 "CapitalReckoner$Search" "weightedBySet" "[I", Cond.instanceMethod yX2_findLeast, Cond.selects RX2 yX2_findLeast yX2_findLeast, Cond.code yX2_findLeast cX2_findLeast 3 none, Cond.fieldLink RX2 25 "CapitalReckoner$Search" "least" "[J", Cond.methodLink RX2 57 yX2_digitsOf, Cond.static yX2_digitsOf, Cond.code yX2_digitsOf cX2_digitsOf 5 (some .long), Cond.methodLink RX2 53 yX2_digitShift]
def wsX3_required_r5 : List Cond := [Cond.static yX2_digitShift, Cond.code yX2_digitShift cX2_digitShift 1 (some .int), Cond.methodLink RX2 61 yX2_fillPrices, Cond.instanceMethod yX2_fillPrices, Cond.selects RX2 yX2_fillPrices yX2_fillPrices, Cond.code yX2_fillPrices cX2_fillPrices 3 none, Cond.fieldLink RX2 21 "CapitalReckoner$Search" "prices" "[J", Cond.methodLink RX2 68 yX2_weightedWith, Cond.instanceMethod yX2_weightedWith, Cond.selects RX2 yX2_weightedWith yX2_weightedWith, Cond.code yX2_weightedWith cX2_weightedWith 3 (some .int), Cond.methodLink RX2 65 yX2_leastOf, Cond.instanceMethod yX2_leastOf, Cond.selects RX2 yX2_leastOf yX2_leastOf, Cond.code yX2_leastOf cX2_leastOf 6 (some .long), Cond.methodLink RX2 78 Lib.MathLoose.min_long.x, Cond.static Lib.MathLoose.min_long.x, Cond.code Lib.MathLoose.min_long.x Lib.MathLoose.min_long.code 4 (some .long), Cond.methodLink RX2 71 yX2_priceOf, Cond.instanceMethod yX2_priceOf, Cond.selects RX2 yX2_priceOf yX2_priceOf, Cond.code yX2_priceOf cX2_priceOf 2 (some .long), Cond.methodLink RX2 75 yX2_leastKey, Cond.instanceMethod yX2_leastKey]
def wsX3_required_r6 : List Cond := [Cond.selects RX2 yX2_leastKey yX2_leastKey, Cond.code yX2_leastKey cX2_leastKey 2 (some .long), Cond.instanceMethod yX2_bestWhole, Cond.selects RX2 yX2_bestWhole yX2_bestWhole, Cond.code yX2_bestWhole cX2_bestWhole 1 (some .int), Cond.methodLink RX2 85 yX2_bestKey, Cond.instanceMethod yX2_bestKey, Cond.selects RX2 yX2_bestKey yX2_bestKey, Cond.code yX2_bestKey cX2_bestKey 1 (some .long), Cond.methodLink RX2 81 yX2_allGifts, Cond.instanceMethod yX2_allGifts, Cond.selects RX2 yX2_allGifts yX2_allGifts, Cond.code yX2_allGifts cX2_allGifts 1 (some .int), Cond.methodLink RX3 205 yX3_plain, Cond.instanceMethod yX3_plain, Cond.selects RX3 yX3_plain yX3_plain, Cond.code yX3_plain cX3_plain 4 (some .int), Cond.fieldLink RX3 13 "CapitalReckoner" "plainWeights" "[I"]
def wsX3_required : List Cond := .code yX3_required cX3_required 1 (some .int) :: ((wsX3_required_r1 ++ (wsX3_required_r2 ++ (wsX3_required_r3 ++ (wsX3_required_r4 ++ (wsX3_required_r5 ++ wsX3_required_r6))))) ++ wsX30 ++ wsX20 ++ wsX10 ++ wsX00)
def wsX3_bareOfParty_r1 : List Cond := [Cond.fieldLink RX3 35 "CapitalReckoner" "exposureCount" "I", Cond.fieldLink RX3 31 "CapitalReckoner" "search" "LCapitalReckoner$Search;", Cond.methodLink RX3 105 yX3_exposureAt, Cond.instanceMethod yX3_exposureAt, Cond.selects RX3 yX3_exposureAt yX3_exposureAt, Cond.initialized RX3, Cond.code yX3_exposureAt cX3_exposureAt 2 (some (.object "CapitalReckoner$Exposure")), Cond.fieldLink RX3 18 "CapitalReckoner" "book" "[LCapitalReckoner$Exposure;", Cond.instanceMethod yX2_givenSet, Cond.initialized RX2, Cond.selects RX2 yX2_givenSet yX2_givenSet, Cond.code yX2_givenSet cX2_givenSet 4 (some .int), Cond.fieldLink RX2 38 "CapitalReckoner$Search" "gifts" "I", Cond.methodLink RX2 89 yX2_takerOf, Cond.instanceMethod yX2_takerOf, Cond.selects RX2 yX2_takerOf yX2_takerOf, Cond.code yX2_takerOf cX2_takerOf 3 (some .int), Cond.methodLink RX2 85 yX2_bestKey, Cond.instanceMethod yX2_bestKey, Cond.selects RX2 yX2_bestKey yX2_bestKey, Cond.code yX2_bestKey cX2_bestKey 1 (some .long), Cond.methodLink RX2 81 yX2_allGifts, Cond.instanceMethod yX2_allGifts, Cond.selects RX2 yX2_allGifts yX2_allGifts]
def wsX3_bareOfParty_r2 : List Cond := [Cond.code yX2_allGifts cX2_allGifts 1 (some .int), Cond.methodLink RX2 75 yX2_leastKey, Cond.instanceMethod yX2_leastKey, Cond.selects RX2 yX2_leastKey yX2_leastKey, Cond.code yX2_leastKey cX2_leastKey 2 (some .long), Cond.fieldLink RX2 25 "CapitalReckoner$Search" "least" "[J", Cond.methodLink RX2 53 yX2_digitShift, Cond.static yX2_digitShift, Cond.code yX2_digitShift cX2_digitShift 1 (some .int), Cond.methodLink RX3 179 yX3_bareWith, Cond.instanceMethod yX3_bareWith, Cond.selects RX3 yX3_bareWith yX3_bareWith, Cond.code yX3_bareWith cX3_bareWith 6 (some .int), Cond.fieldLink RX3 39 "CapitalReckoner" "pieceCount" "I", Cond.methodLink RX3 208 Lib.Math.max.name, Cond.static Lib.Math.max.name, Cond.initialized "java/lang/Math", Cond.code Lib.Math.max.name Lib.Math.max.code 2 (some .int), Cond.instanceMethod yX0_amountNow, Cond.initialized RX0, Cond.selects RX0 yX0_amountNow yX0_amountNow, Cond.code yX0_amountNow cX0_amountNow 1 (some .int), Cond.fieldLink RX0 18 "CapitalReckoner$Exposure" "drawn" "I", Cond.fieldLink RX0 21 "CapitalReckoner$Exposure" "promised" "I"]
def wsX3_bareOfParty_r3 : List Cond := [Cond.static yX3_percentOf, Cond.code yX3_percentOf cX3_percentOf 2 (some .int), Cond.constantLong RX3 218 (100), Cond.methodLink RX3 149 yX3_pieceAt, Cond.instanceMethod yX3_pieceAt, Cond.selects RX3 yX3_pieceAt yX3_pieceAt, Cond.code yX3_pieceAt cX3_pieceAt 2 (some (.object "CapitalReckoner$Piece")), Cond.fieldLink RX3 24 "CapitalReckoner" "collateral" "[LCapitalReckoner$Piece;", Cond.methodLink RX3 220 yX3_has, Cond.static yX3_has, Cond.code yX3_has cX3_has 2 (some .boolean), Cond.instanceMethod yX1_valueFor, Cond.initialized RX1, Cond.selects RX1 yX1_valueFor yX1_valueFor, Cond.code yX1_valueFor cX1_valueFor 3 (some .int), Cond.fieldLink RX1 9 "CapitalReckoner$Piece" "amount" "I", Cond.fieldLink RX1 15 "CapitalReckoner$Piece" "haircut" "I", Cond.fieldLink RX1 18 "CapitalReckoner$Piece" "currency" "I", Cond.fieldLink RX1 21 "CapitalReckoner$Piece" "days" "I"]
def wsX3_bareOfParty : List Cond := .code yX3_bareOfParty cX3_bareOfParty 5 (some .int) :: ((wsX3_bareOfParty_r1 ++ (wsX3_bareOfParty_r2 ++ wsX3_bareOfParty_r3)) ++ wsX30 ++ wsX00 ++ wsX20 ++ wsX10)
def wsX3_partyBare_r1 : List Cond := [Cond.classLink RX3 52 "java/lang/IndexOutOfBoundsException", Cond.initialized "java/lang/IndexOutOfBoundsException", Cond.methodLink RX3 81 yX3_isParty, Cond.static yX3_isParty, Cond.initialized RX3, Cond.code yX3_isParty cX3_isParty 1 (some .boolean), Cond.methodLink RX3 59 yX3_isWithin, Cond.static yX3_isWithin, Cond.code yX3_isWithin cX3_isWithin 3 (some .boolean), Cond.methodLink RX3 169 yX3_findBest, Cond.instanceMethod yX3_findBest, Cond.selects RX3 yX3_findBest yX3_findBest, Cond.code yX3_findBest cX3_findBest 1 none, Cond.fieldLink RX3 31 "CapitalReckoner" "search" "LCapitalReckoner$Search;", Cond.methodLink RX3 189 yX3_fillSearch, Cond.instanceMethod yX3_fillSearch, Cond.selects RX3 yX3_fillSearch yX3_fillSearch, Cond.code yX3_fillSearch cX3_fillSearch 4 none, Cond.fieldLink RX3 35 "CapitalReckoner" "exposureCount" "I", Cond.fieldLink RX3 39 "CapitalReckoner" "pieceCount" "I", Cond.instanceMethod yX2_begin, Cond.initialized RX2, Cond.selects RX2 yX2_begin yX2_begin, Cond.code yX2_begin cX2_begin 3 none]
def wsX3_partyBare_r2 : List Cond := [Cond.methodLink RX2 28 Lib.Math.min.name, Cond.static Lib.Math.min.name, Cond.initialized "java/lang/Math", Cond.code Lib.Math.min.name Lib.Math.min.code 2 (some .int), Cond.fieldLink RX2 34 "CapitalReckoner$Search" "takers" "I", Cond.fieldLink RX2 38 "CapitalReckoner$Search" "gifts" "I", Cond.methodLink RX3 105 yX3_exposureAt, Cond.instanceMethod yX3_exposureAt, Cond.selects RX3 yX3_exposureAt yX3_exposureAt, Cond.code yX3_exposureAt cX3_exposureAt 2 (some (.object "CapitalReckoner$Exposure")), Cond.fieldLink RX3 18 "CapitalReckoner" "book" "[LCapitalReckoner$Exposure;", Cond.methodLink RX3 237 yX3_usableFor, Cond.instanceMethod yX3_usableFor, Cond.selects RX3 yX3_usableFor yX3_usableFor, Cond.code yX3_usableFor cX3_usableFor 5 (some .int), Cond.methodLink RX3 149 yX3_pieceAt, Cond.instanceMethod yX3_pieceAt, Cond.selects RX3 yX3_pieceAt yX3_pieceAt, Cond.code yX3_pieceAt cX3_pieceAt 2 (some (.object "CapitalReckoner$Piece")), Cond.fieldLink RX3 24 "CapitalReckoner" "collateral" "[LCapitalReckoner$Piece;", Cond.methodLink RX3 220 yX3_has, Cond.static yX3_has, Cond.code yX3_has cX3_has 2 (some .boolean), Cond.instanceMethod yX2_setUsable]
def wsX3_partyBare_r3 : List Cond := [Cond.selects RX2 yX2_setUsable yX2_setUsable, Cond.code yX2_setUsable cX2_setUsable 3 none, Cond.fieldLink RX2 11 "CapitalReckoner$Search" "usable" "[I", Cond.static yX3_put, Cond.code yX3_put cX3_put 3 none, Cond.methodLink RX3 179 yX3_bareWith, Cond.instanceMethod yX3_bareWith, Cond.selects RX3 yX3_bareWith yX3_bareWith, Cond.code yX3_bareWith cX3_bareWith 6 (some .int), Cond.methodLink RX3 208 Lib.Math.max.name, Cond.static Lib.Math.max.name, Cond.code Lib.Math.max.name Lib.Math.max.code 2 (some .int), Cond.instanceMethod yX0_amountNow, Cond.initialized RX0, Cond.selects RX0 yX0_amountNow yX0_amountNow, Cond.code yX0_amountNow cX0_amountNow 1 (some .int), Cond.fieldLink RX0 18 "CapitalReckoner$Exposure" "drawn" "I", Cond.fieldLink RX0 21 "CapitalReckoner$Exposure" "promised" "I", Cond.static yX3_percentOf, Cond.code yX3_percentOf cX3_percentOf 2 (some .int), Cond.constantLong RX3 218 (100), Cond.instanceMethod yX1_valueFor, Cond.initialized RX1, Cond.selects RX1 yX1_valueFor yX1_valueFor]
def wsX3_partyBare_r4 : List Cond := [Cond.code yX1_valueFor cX1_valueFor 3 (some .int), Cond.fieldLink RX1 9 "CapitalReckoner$Piece" "amount" "I", Cond.fieldLink RX1 15 "CapitalReckoner$Piece" "haircut" "I", Cond.fieldLink RX1 18 "CapitalReckoner$Piece" "currency" "I", Cond.fieldLink RX1 21 "CapitalReckoner$Piece" "days" "I", Cond.methodLink RX3 183 yX3_weightedOf, Cond.instanceMethod yX3_weightedOf, Cond.selects RX3 yX3_weightedOf yX3_weightedOf, Cond.code yX3_weightedOf cX3_weightedOf 6 (some .int), Cond.fieldLink RX3 7 "CapitalReckoner" "weights" "[I", Cond.methodLink RX3 224 Lib.Math.min.name, Cond.methodLink RX3 68 yX3_at, Cond.static yX3_at, Cond.code yX3_at cX3_at 2 (some .int), Cond.methodLink RX3 198 yX3_percentOf, Cond.instanceMethod yX2_setWeighted, Cond.selects RX2 yX2_setWeighted yX2_setWeighted, Cond.code yX2_setWeighted cX2_setWeighted 4 none, Cond.fieldLink RX2 15 "CapitalReckoner$Search" "weightedBySet" "[I", Cond.instanceMethod yX2_findLeast, Cond.selects RX2 yX2_findLeast yX2_findLeast, Cond.code yX2_findLeast cX2_findLeast 3 none, Cond.fieldLink RX2 25 "CapitalReckoner$Search" "least" "[J", Cond.methodLink RX2 57 yX2_digitsOf]
def wsX3_partyBare_r5 : List Cond := [Cond.static yX2_digitsOf, Cond.code yX2_digitsOf cX2_digitsOf 5 (some .long), Cond.methodLink RX2 53 yX2_digitShift, Cond.static yX2_digitShift, Cond.code yX2_digitShift cX2_digitShift 1 (some .int), Cond.methodLink RX2 61 yX2_fillPrices, Cond.instanceMethod yX2_fillPrices, Cond.selects RX2 yX2_fillPrices yX2_fillPrices, Cond.code yX2_fillPrices cX2_fillPrices 3 none, Cond.fieldLink RX2 21 "CapitalReckoner$Search" "prices" "[J", Cond.methodLink RX2 68 yX2_weightedWith, Cond.instanceMethod yX2_weightedWith, Cond.selects RX2 yX2_weightedWith yX2_weightedWith, Cond.code yX2_weightedWith cX2_weightedWith 3 (some .int), Cond.methodLink RX2 65 yX2_leastOf, Cond.instanceMethod yX2_leastOf, Cond.selects RX2 yX2_leastOf yX2_leastOf, Cond.code yX2_leastOf cX2_leastOf 6 (some .long), Cond.methodLink RX2 78 Lib.MathLoose.min_long.x, Cond.static Lib.MathLoose.min_long.x, Cond.code Lib.MathLoose.min_long.x Lib.MathLoose.min_long.code 4 (some .long), Cond.methodLink RX2 71 yX2_priceOf, Cond.instanceMethod yX2_priceOf, Cond.selects RX2 yX2_priceOf yX2_priceOf]
def wsX3_partyBare_r6 : List Cond := [Cond.code yX2_priceOf cX2_priceOf 2 (some .long), Cond.methodLink RX2 75 yX2_leastKey, Cond.instanceMethod yX2_leastKey, Cond.selects RX2 yX2_leastKey yX2_leastKey, Cond.code yX2_leastKey cX2_leastKey 2 (some .long), Cond.methodLink RX3 215 yX3_bareOfParty, Cond.instanceMethod yX3_bareOfParty, Cond.selects RX3 yX3_bareOfParty yX3_bareOfParty, Cond.code yX3_bareOfParty cX3_bareOfParty 5 (some .int), Cond.instanceMethod yX2_givenSet, Cond.selects RX2 yX2_givenSet yX2_givenSet, Cond.code yX2_givenSet cX2_givenSet 4 (some .int), Cond.methodLink RX2 89 yX2_takerOf, Cond.instanceMethod yX2_takerOf, Cond.selects RX2 yX2_takerOf yX2_takerOf, Cond.code yX2_takerOf cX2_takerOf 3 (some .int), Cond.methodLink RX2 85 yX2_bestKey, Cond.instanceMethod yX2_bestKey, Cond.selects RX2 yX2_bestKey yX2_bestKey, Cond.code yX2_bestKey cX2_bestKey 1 (some .long), Cond.methodLink RX2 81 yX2_allGifts, Cond.instanceMethod yX2_allGifts, Cond.selects RX2 yX2_allGifts yX2_allGifts, Cond.code yX2_allGifts cX2_allGifts 1 (some .int)]
def wsX3_partyBare : List Cond := .code yX3_partyBare cX3_partyBare 2 (some .int) :: ((wsX3_partyBare_r1 ++ (wsX3_partyBare_r2 ++ (wsX3_partyBare_r3 ++ (wsX3_partyBare_r4 ++ (wsX3_partyBare_r5 ++ wsX3_partyBare_r6))))) ++ wsX30 ++ wsX20 ++ wsX10 ++ wsX00 ++ (vx_atS RX3 56 "java/lang/IndexOutOfBoundsException" ["java/lang/RuntimeException", "java/lang/Exception"]).filter goodWord)
def wsX3_tooLarge_r1 : List Cond := [Cond.fieldLink RX3 45 "CapitalReckoner" "capital" "I", Cond.methodLink RX3 169 yX3_findBest, Cond.instanceMethod yX3_findBest, Cond.selects RX3 yX3_findBest yX3_findBest, Cond.initialized RX3, Cond.code yX3_findBest cX3_findBest 1 none, Cond.fieldLink RX3 31 "CapitalReckoner" "search" "LCapitalReckoner$Search;", Cond.methodLink RX3 189 yX3_fillSearch, Cond.instanceMethod yX3_fillSearch, Cond.selects RX3 yX3_fillSearch yX3_fillSearch, Cond.code yX3_fillSearch cX3_fillSearch 4 none, Cond.fieldLink RX3 35 "CapitalReckoner" "exposureCount" "I", Cond.fieldLink RX3 39 "CapitalReckoner" "pieceCount" "I", Cond.instanceMethod yX2_begin, Cond.initialized RX2, Cond.selects RX2 yX2_begin yX2_begin, Cond.code yX2_begin cX2_begin 3 none, Cond.methodLink RX2 28 Lib.Math.min.name, Cond.static Lib.Math.min.name, Cond.initialized "java/lang/Math", Cond.code Lib.Math.min.name Lib.Math.min.code 2 (some .int), Cond.fieldLink RX2 34 "CapitalReckoner$Search" "takers" "I", Cond.fieldLink RX2 38 "CapitalReckoner$Search" "gifts" "I", Cond.methodLink RX3 105 yX3_exposureAt]
def wsX3_tooLarge_r2 : List Cond := [Cond.instanceMethod yX3_exposureAt, Cond.selects RX3 yX3_exposureAt yX3_exposureAt, Cond.code yX3_exposureAt cX3_exposureAt 2 (some (.object "CapitalReckoner$Exposure")), Cond.fieldLink RX3 18 "CapitalReckoner" "book" "[LCapitalReckoner$Exposure;", Cond.methodLink RX3 237 yX3_usableFor, Cond.instanceMethod yX3_usableFor, Cond.selects RX3 yX3_usableFor yX3_usableFor, Cond.code yX3_usableFor cX3_usableFor 5 (some .int), Cond.methodLink RX3 149 yX3_pieceAt, Cond.instanceMethod yX3_pieceAt, Cond.selects RX3 yX3_pieceAt yX3_pieceAt, Cond.code yX3_pieceAt cX3_pieceAt 2 (some (.object "CapitalReckoner$Piece")), Cond.fieldLink RX3 24 "CapitalReckoner" "collateral" "[LCapitalReckoner$Piece;", Cond.methodLink RX3 220 yX3_has, Cond.static yX3_has, Cond.code yX3_has cX3_has 2 (some .boolean), Cond.instanceMethod yX2_setUsable, Cond.selects RX2 yX2_setUsable yX2_setUsable, Cond.code yX2_setUsable cX2_setUsable 3 none, Cond.fieldLink RX2 11 "CapitalReckoner$Search" "usable" "[I", Cond.static yX3_put, Cond.code yX3_put cX3_put 3 none, Cond.methodLink RX3 179 yX3_bareWith, Cond.instanceMethod yX3_bareWith]
def wsX3_tooLarge_r3 : List Cond := [Cond.selects RX3 yX3_bareWith yX3_bareWith, Cond.code yX3_bareWith cX3_bareWith 6 (some .int), Cond.methodLink RX3 208 Lib.Math.max.name, Cond.static Lib.Math.max.name, Cond.code Lib.Math.max.name Lib.Math.max.code 2 (some .int), Cond.instanceMethod yX0_amountNow, Cond.initialized RX0, Cond.selects RX0 yX0_amountNow yX0_amountNow, Cond.code yX0_amountNow cX0_amountNow 1 (some .int), Cond.fieldLink RX0 18 "CapitalReckoner$Exposure" "drawn" "I", Cond.fieldLink RX0 21 "CapitalReckoner$Exposure" "promised" "I", Cond.static yX3_percentOf, Cond.code yX3_percentOf cX3_percentOf 2 (some .int), Cond.constantLong RX3 218 (100), Cond.instanceMethod yX1_valueFor, Cond.initialized RX1, Cond.selects RX1 yX1_valueFor yX1_valueFor, Cond.code yX1_valueFor cX1_valueFor 3 (some .int), Cond.fieldLink RX1 9 "CapitalReckoner$Piece" "amount" "I", Cond.fieldLink RX1 15 "CapitalReckoner$Piece" "haircut" "I", Cond.fieldLink RX1 18 "CapitalReckoner$Piece" "currency" "I", Cond.fieldLink RX1 21 "CapitalReckoner$Piece" "days" "I", Cond.methodLink RX3 183 yX3_weightedOf, Cond.instanceMethod yX3_weightedOf]
def wsX3_tooLarge_r4 : List Cond := [Cond.selects RX3 yX3_weightedOf yX3_weightedOf, Cond.code yX3_weightedOf cX3_weightedOf 6 (some .int), Cond.fieldLink RX3 7 "CapitalReckoner" "weights" "[I", Cond.methodLink RX3 224 Lib.Math.min.name, Cond.methodLink RX3 68 yX3_at, Cond.static yX3_at, Cond.code yX3_at cX3_at 2 (some .int), Cond.methodLink RX3 198 yX3_percentOf, Cond.instanceMethod yX2_setWeighted, Cond.selects RX2 yX2_setWeighted yX2_setWeighted, Cond.code yX2_setWeighted cX2_setWeighted 4 none, Cond.fieldLink RX2 15 "CapitalReckoner$Search" "weightedBySet" "[I", Cond.instanceMethod yX2_findLeast, Cond.selects RX2 yX2_findLeast yX2_findLeast, Cond.code yX2_findLeast cX2_findLeast 3 none, Cond.fieldLink RX2 25 "CapitalReckoner$Search" "least" "[J", Cond.methodLink RX2 57 yX2_digitsOf, Cond.static yX2_digitsOf, Cond.code yX2_digitsOf cX2_digitsOf 5 (some .long), Cond.methodLink RX2 53 yX2_digitShift, Cond.static yX2_digitShift, Cond.code yX2_digitShift cX2_digitShift 1 (some .int), Cond.methodLink RX2 61 yX2_fillPrices, Cond.instanceMethod yX2_fillPrices]
def wsX3_tooLarge_r5 : List Cond := [Cond.selects RX2 yX2_fillPrices yX2_fillPrices, Cond.code yX2_fillPrices cX2_fillPrices 3 none, Cond.fieldLink RX2 21 "CapitalReckoner$Search" "prices" "[J", Cond.methodLink RX2 68 yX2_weightedWith, Cond.instanceMethod yX2_weightedWith, Cond.selects RX2 yX2_weightedWith yX2_weightedWith, Cond.code yX2_weightedWith cX2_weightedWith 3 (some .int), Cond.methodLink RX2 65 yX2_leastOf, Cond.instanceMethod yX2_leastOf, Cond.selects RX2 yX2_leastOf yX2_leastOf, Cond.code yX2_leastOf cX2_leastOf 6 (some .long), Cond.methodLink RX2 78 Lib.MathLoose.min_long.x, Cond.static Lib.MathLoose.min_long.x, Cond.code Lib.MathLoose.min_long.x Lib.MathLoose.min_long.code 4 (some .long), Cond.methodLink RX2 71 yX2_priceOf, Cond.instanceMethod yX2_priceOf, Cond.selects RX2 yX2_priceOf yX2_priceOf, Cond.code yX2_priceOf cX2_priceOf 2 (some .long), Cond.methodLink RX2 75 yX2_leastKey, Cond.instanceMethod yX2_leastKey, Cond.selects RX2 yX2_leastKey yX2_leastKey, Cond.code yX2_leastKey cX2_leastKey 2 (some .long), Cond.methodLink RX3 215 yX3_bareOfParty, Cond.instanceMethod yX3_bareOfParty]
def wsX3_tooLarge_r6 : List Cond := [Cond.selects RX3 yX3_bareOfParty yX3_bareOfParty, Cond.code yX3_bareOfParty cX3_bareOfParty 5 (some .int), Cond.instanceMethod yX2_givenSet, Cond.selects RX2 yX2_givenSet yX2_givenSet, Cond.code yX2_givenSet cX2_givenSet 4 (some .int), Cond.methodLink RX2 89 yX2_takerOf, Cond.instanceMethod yX2_takerOf, Cond.selects RX2 yX2_takerOf yX2_takerOf, Cond.code yX2_takerOf cX2_takerOf 3 (some .int), Cond.methodLink RX2 85 yX2_bestKey, Cond.instanceMethod yX2_bestKey, Cond.selects RX2 yX2_bestKey yX2_bestKey, Cond.code yX2_bestKey cX2_bestKey 1 (some .long), Cond.methodLink RX2 81 yX2_allGifts, Cond.instanceMethod yX2_allGifts, Cond.selects RX2 yX2_allGifts yX2_allGifts, Cond.code yX2_allGifts cX2_allGifts 1 (some .int)]
def wsX3_tooLarge : List Cond := .code yX3_tooLarge cX3_tooLarge 3 (some .int) :: ((wsX3_tooLarge_r1 ++ (wsX3_tooLarge_r2 ++ (wsX3_tooLarge_r3 ++ (wsX3_tooLarge_r4 ++ (wsX3_tooLarge_r5 ++ wsX3_tooLarge_r6))))) ++ wsX30 ++ wsX20 ++ wsX10 ++ wsX00)
def wsX4_init : List Cond := .code yX4_init cX4_init 1 none :: ([.methodLink RX4 1 objectInit, .instanceMethod objectInit, .code objectInit ⟨#[0xb1]⟩ 1 none, .arrayClass .int, .fieldLink RX4 7 "CapitalReckonerModel" "weight" "[I", .fieldLink RX4 13 "CapitalReckonerModel" "simple" "[I", .fieldLink RX4 16 "CapitalReckonerModel" "floor" "I", .fieldLink RX4 20 "CapitalReckonerModel" "kind" "[I", .fieldLink RX4 23 "CapitalReckonerModel" "party" "[I", .fieldLink RX4 26 "CapitalReckonerModel" "drawn" "[I", .fieldLink RX4 29 "CapitalReckonerModel" "promised" "[I", .fieldLink RX4 32 "CapitalReckonerModel" "currency" "[I", .fieldLink RX4 35 "CapitalReckonerModel" "days" "[I", .fieldLink RX4 38 "CapitalReckonerModel" "better" "[I", .fieldLink RX4 41 "CapitalReckonerModel" "sure" "[I", .fieldLink RX4 44 "CapitalReckonerModel" "size" "[I", .fieldLink RX4 47 "CapitalReckonerModel" "cut" "[I", .fieldLink RX4 50 "CapitalReckonerModel" "coin" "[I", .fieldLink RX4 53 "CapitalReckonerModel" "left" "[I", .fieldLink RX4 56 "CapitalReckonerModel" "uses" "[I", .fieldLink RX4 59 "CapitalReckonerModel" "table" "[I", .fieldLink RX4 62 "CapitalReckonerModel" "may" "[I", .fieldLink RX4 65 "CapitalReckonerModel" "least" "[I"] ++ wsX40)
def wsX4_thrown : List Cond := .code yX4_thrown cX4_thrown 1 (some .int) :: ([.fieldLink RX4 68 "CapitalReckonerModel" "thrown" "I"] ++ wsX40)
def wsX4_isIn : List Cond := .code yX4_isIn cX4_isIn 3 (some .boolean) :: ([])
def wsX4_isFour : List Cond := .code yX4_isFour cX4_isFour 1 (some .boolean) :: ([.methodLink RX4 71 yX4_isIn, .static yX4_isIn, .initialized RX4, .code yX4_isIn cX4_isIn 3 (some .boolean)])
def wsX4_isExposure : List Cond := .code yX4_isExposure cX4_isExposure 2 (some .boolean) :: ([.fieldLink RX4 75 "CapitalReckonerModel" "exposures" "I", .methodLink RX4 71 yX4_isIn, .static yX4_isIn, .initialized RX4, .code yX4_isIn cX4_isIn 3 (some .boolean)] ++ wsX40)
def wsX4_isPiece : List Cond := .code yX4_isPiece cX4_isPiece 2 (some .boolean) :: ([.fieldLink RX4 78 "CapitalReckonerModel" "pieces" "I", .methodLink RX4 71 yX4_isIn, .static yX4_isIn, .initialized RX4, .code yX4_isIn cX4_isIn 3 (some .boolean)] ++ wsX40)
def wsX4_percent : List Cond := .code yX4_percent cX4_percent 2 (some .int) :: ([.constantLong RX4 81 (100)])
def wsX4_setWeights : List Cond := .code yX4_setWeights cX4_setWeights 5 (some .int) :: ([.fieldLink RX4 68 "CapitalReckonerModel" "thrown" "I", .fieldLink RX4 7 "CapitalReckonerModel" "weight" "[I", .fieldLink RX4 13 "CapitalReckonerModel" "simple" "[I", .methodLink RX4 83 yX4_isFour, .static yX4_isFour, .initialized RX4, .code yX4_isFour cX4_isFour 1 (some .boolean), .methodLink RX4 71 yX4_isIn, .static yX4_isIn, .code yX4_isIn cX4_isIn 3 (some .boolean)] ++ wsX40)
def wsX4_setFloor : List Cond := .code yX4_setFloor cX4_setFloor 3 (some .int) :: ([.fieldLink RX4 68 "CapitalReckonerModel" "thrown" "I", .fieldLink RX4 16 "CapitalReckonerModel" "floor" "I", .methodLink RX4 71 yX4_isIn, .static yX4_isIn, .initialized RX4, .code yX4_isIn cX4_isIn 3 (some .boolean)] ++ wsX40)
def wsX4_setCapital : List Cond := .code yX4_setCapital cX4_setCapital 3 (some .int) :: ([.constant RX4 87 (1000000000), .fieldLink RX4 68 "CapitalReckonerModel" "thrown" "I", .fieldLink RX4 88 "CapitalReckonerModel" "capital" "I", .methodLink RX4 71 yX4_isIn, .static yX4_isIn, .initialized RX4, .code yX4_isIn cX4_isIn 3 (some .boolean)] ++ wsX40)
def wsX4_isSum : List Cond := .code yX4_isSum cX4_isSum 1 (some .boolean) :: ([.constant RX4 91 (10000000), .methodLink RX4 71 yX4_isIn, .static yX4_isIn, .initialized RX4, .code yX4_isIn cX4_isIn 3 (some .boolean)])
def wsX4_addExposure : List Cond := .code yX4_addExposure cX4_addExposure 8 (some .int) :: ([.fieldLink RX4 75 "CapitalReckonerModel" "exposures" "I", .fieldLink RX4 68 "CapitalReckonerModel" "thrown" "I", .fieldLink RX4 20 "CapitalReckonerModel" "kind" "[I", .fieldLink RX4 23 "CapitalReckonerModel" "party" "[I", .fieldLink RX4 26 "CapitalReckonerModel" "drawn" "[I", .fieldLink RX4 29 "CapitalReckonerModel" "promised" "[I", .fieldLink RX4 32 "CapitalReckonerModel" "currency" "[I", .fieldLink RX4 35 "CapitalReckonerModel" "days" "[I", .methodLink RX4 92 yX4_isSum, .static yX4_isSum, .initialized RX4, .code yX4_isSum cX4_isSum 1 (some .boolean), .constant RX4 91 (10000000), .methodLink RX4 71 yX4_isIn, .static yX4_isIn, .code yX4_isIn cX4_isIn 3 (some .boolean), .methodLink RX4 83 yX4_isFour, .static yX4_isFour, .code yX4_isFour cX4_isFour 1 (some .boolean)] ++ wsX40)
def wsX4_draw : List Cond := .code yX4_draw cX4_draw 3 (some .int) :: ([.constant RX4 98 (-10000000), .constant RX4 91 (10000000), .fieldLink RX4 68 "CapitalReckonerModel" "thrown" "I", .fieldLink RX4 26 "CapitalReckonerModel" "drawn" "[I", .fieldLink RX4 29 "CapitalReckonerModel" "promised" "[I", .methodLink RX4 95 yX4_isExposure, .instanceMethod yX4_isExposure, .selects RX4 yX4_isExposure yX4_isExposure, .initialized RX4, .code yX4_isExposure cX4_isExposure 2 (some .boolean), .fieldLink RX4 75 "CapitalReckonerModel" "exposures" "I", .methodLink RX4 71 yX4_isIn, .static yX4_isIn, .code yX4_isIn cX4_isIn 3 (some .boolean), .methodLink RX4 92 yX4_isSum, .static yX4_isSum, .code yX4_isSum cX4_isSum 1 (some .boolean)] ++ wsX40)
def wsX4_setClass : List Cond := .code yX4_setClass cX4_setClass 4 (some .int) :: ([.fieldLink RX4 68 "CapitalReckonerModel" "thrown" "I", .fieldLink RX4 20 "CapitalReckonerModel" "kind" "[I", .methodLink RX4 95 yX4_isExposure, .instanceMethod yX4_isExposure, .selects RX4 yX4_isExposure yX4_isExposure, .initialized RX4, .code yX4_isExposure cX4_isExposure 2 (some .boolean), .fieldLink RX4 75 "CapitalReckonerModel" "exposures" "I", .methodLink RX4 71 yX4_isIn, .static yX4_isIn, .code yX4_isIn cX4_isIn 3 (some .boolean), .methodLink RX4 83 yX4_isFour, .static yX4_isFour, .code yX4_isFour cX4_isFour 1 (some .boolean)] ++ wsX40)
def wsX4_guarantee : List Cond := .code yX4_guarantee cX4_guarantee 5 (some .int) :: ([.fieldLink RX4 68 "CapitalReckonerModel" "thrown" "I", .fieldLink RX4 41 "CapitalReckonerModel" "sure" "[I", .fieldLink RX4 38 "CapitalReckonerModel" "better" "[I", .methodLink RX4 95 yX4_isExposure, .instanceMethod yX4_isExposure, .selects RX4 yX4_isExposure yX4_isExposure, .initialized RX4, .code yX4_isExposure cX4_isExposure 2 (some .boolean), .fieldLink RX4 75 "CapitalReckonerModel" "exposures" "I", .methodLink RX4 71 yX4_isIn, .static yX4_isIn, .code yX4_isIn cX4_isIn 3 (some .boolean), .methodLink RX4 83 yX4_isFour, .static yX4_isFour, .code yX4_isFour cX4_isFour 1 (some .boolean), .methodLink RX4 92 yX4_isSum, .static yX4_isSum, .code yX4_isSum cX4_isSum 1 (some .boolean), .constant RX4 91 (10000000)] ++ wsX40)
def wsX4_exposures : List Cond := .code yX4_exposures cX4_exposures 1 (some .int) :: ([.fieldLink RX4 68 "CapitalReckonerModel" "thrown" "I", .fieldLink RX4 75 "CapitalReckonerModel" "exposures" "I"] ++ wsX40)
def wsX4_amounts : List Cond := .code yX4_amounts cX4_amounts 2 (some .int) :: ([.fieldLink RX4 26 "CapitalReckonerModel" "drawn" "[I", .fieldLink RX4 29 "CapitalReckonerModel" "promised" "[I", .methodLink RX4 99 yX4_percent, .static yX4_percent, .initialized RX4, .code yX4_percent cX4_percent 2 (some .int), .constantLong RX4 81 (100)] ++ wsX40)
def wsX4_amount : List Cond := .code yX4_amount cX4_amount 2 (some .int) :: ([.fieldLink RX4 68 "CapitalReckonerModel" "thrown" "I", .methodLink RX4 95 yX4_isExposure, .instanceMethod yX4_isExposure, .selects RX4 yX4_isExposure yX4_isExposure, .initialized RX4, .code yX4_isExposure cX4_isExposure 2 (some .boolean), .fieldLink RX4 75 "CapitalReckonerModel" "exposures" "I", .methodLink RX4 71 yX4_isIn, .static yX4_isIn, .code yX4_isIn cX4_isIn 3 (some .boolean), .methodLink RX4 103 yX4_amounts, .instanceMethod yX4_amounts, .selects RX4 yX4_amounts yX4_amounts, .code yX4_amounts cX4_amounts 2 (some .int), .fieldLink RX4 26 "CapitalReckonerModel" "drawn" "[I", .fieldLink RX4 29 "CapitalReckonerModel" "promised" "[I", .methodLink RX4 99 yX4_percent, .static yX4_percent, .code yX4_percent cX4_percent 2 (some .int), .constantLong RX4 81 (100)] ++ wsX40)
def wsX4_addPiece : List Cond := .code yX4_addPiece cX4_addPiece 7 (some .int) :: ([.constant RX4 91 (10000000), .fieldLink RX4 78 "CapitalReckonerModel" "pieces" "I", .fieldLink RX4 68 "CapitalReckonerModel" "thrown" "I", .fieldLink RX4 44 "CapitalReckonerModel" "size" "[I", .fieldLink RX4 47 "CapitalReckonerModel" "cut" "[I", .fieldLink RX4 50 "CapitalReckonerModel" "coin" "[I", .fieldLink RX4 53 "CapitalReckonerModel" "left" "[I", .fieldLink RX4 56 "CapitalReckonerModel" "uses" "[I", .methodLink RX4 71 yX4_isIn, .static yX4_isIn, .initialized RX4, .code yX4_isIn cX4_isIn 3 (some .boolean)] ++ wsX40)
def wsX4_setPiece : List Cond := .code yX4_setPiece cX4_setPiece 5 (some .int) :: ([.constant RX4 91 (10000000), .fieldLink RX4 68 "CapitalReckonerModel" "thrown" "I", .fieldLink RX4 44 "CapitalReckonerModel" "size" "[I", .fieldLink RX4 56 "CapitalReckonerModel" "uses" "[I", .methodLink RX4 107 yX4_isPiece, .instanceMethod yX4_isPiece, .selects RX4 yX4_isPiece yX4_isPiece, .initialized RX4, .code yX4_isPiece cX4_isPiece 2 (some .boolean), .fieldLink RX4 78 "CapitalReckonerModel" "pieces" "I", .methodLink RX4 71 yX4_isIn, .static yX4_isIn, .code yX4_isIn cX4_isIn 3 (some .boolean)] ++ wsX40)
def wsX4_pieces : List Cond := .code yX4_pieces cX4_pieces 1 (some .int) :: ([.fieldLink RX4 68 "CapitalReckonerModel" "thrown" "I", .fieldLink RX4 78 "CapitalReckonerModel" "pieces" "I"] ++ wsX40)
def wsX4_valued : List Cond := .code yX4_valued cX4_valued 4 (some .int) :: ([.fieldLink RX4 44 "CapitalReckonerModel" "size" "[I", .fieldLink RX4 47 "CapitalReckonerModel" "cut" "[I", .fieldLink RX4 50 "CapitalReckonerModel" "coin" "[I", .fieldLink RX4 32 "CapitalReckonerModel" "currency" "[I", .fieldLink RX4 53 "CapitalReckonerModel" "left" "[I", .fieldLink RX4 35 "CapitalReckonerModel" "days" "[I", .methodLink RX4 99 yX4_percent, .static yX4_percent, .initialized RX4, .code yX4_percent cX4_percent 2 (some .int), .constantLong RX4 81 (100)] ++ wsX40)
def wsX4_value_r1 : List Cond := [Cond.fieldLink RX4 68 "CapitalReckonerModel" "thrown" "I", Cond.methodLink RX4 107 yX4_isPiece, Cond.instanceMethod yX4_isPiece, Cond.selects RX4 yX4_isPiece yX4_isPiece, Cond.initialized RX4, Cond.code yX4_isPiece cX4_isPiece 2 (some .boolean), Cond.fieldLink RX4 78 "CapitalReckonerModel" "pieces" "I", Cond.methodLink RX4 71 yX4_isIn, Cond.static yX4_isIn, Cond.code yX4_isIn cX4_isIn 3 (some .boolean), Cond.methodLink RX4 95 yX4_isExposure, Cond.instanceMethod yX4_isExposure, Cond.selects RX4 yX4_isExposure yX4_isExposure, Cond.code yX4_isExposure cX4_isExposure 2 (some .boolean), Cond.fieldLink RX4 75 "CapitalReckonerModel" "exposures" "I", Cond.methodLink RX4 110 yX4_valued, Cond.instanceMethod yX4_valued, Cond.selects RX4 yX4_valued yX4_valued, Cond.code yX4_valued cX4_valued 4 (some .int), Cond.fieldLink RX4 44 "CapitalReckonerModel" "size" "[I", Cond.fieldLink RX4 47 "CapitalReckonerModel" "cut" "[I", Cond.fieldLink RX4 50 "CapitalReckonerModel" "coin" "[I", Cond.fieldLink RX4 32 "CapitalReckonerModel" "currency" "[I", Cond.fieldLink RX4 53 "CapitalReckonerModel" "left" "[I"]
def wsX4_value_r2 : List Cond := [Cond.fieldLink RX4 35 "CapitalReckonerModel" "days" "[I", Cond.methodLink RX4 99 yX4_percent, Cond.static yX4_percent, Cond.code yX4_percent cX4_percent 2 (some .int), Cond.constantLong RX4 81 (100)]
def wsX4_value : List Cond := .code yX4_value cX4_value 3 (some .int) :: ((wsX4_value_r1 ++ wsX4_value_r2) ++ wsX40)
def wsX4_bared : List Cond := .code yX4_bared cX4_bared 5 (some .int) :: ([.fieldLink RX4 78 "CapitalReckonerModel" "pieces" "I", .methodLink RX4 103 yX4_amounts, .instanceMethod yX4_amounts, .selects RX4 yX4_amounts yX4_amounts, .initialized RX4, .code yX4_amounts cX4_amounts 2 (some .int), .fieldLink RX4 26 "CapitalReckonerModel" "drawn" "[I", .fieldLink RX4 29 "CapitalReckonerModel" "promised" "[I", .methodLink RX4 99 yX4_percent, .static yX4_percent, .code yX4_percent cX4_percent 2 (some .int), .constantLong RX4 81 (100), .methodLink RX4 110 yX4_valued, .instanceMethod yX4_valued, .selects RX4 yX4_valued yX4_valued, .code yX4_valued cX4_valued 4 (some .int), .fieldLink RX4 44 "CapitalReckonerModel" "size" "[I", .fieldLink RX4 47 "CapitalReckonerModel" "cut" "[I", .fieldLink RX4 50 "CapitalReckonerModel" "coin" "[I", .fieldLink RX4 32 "CapitalReckonerModel" "currency" "[I", .fieldLink RX4 53 "CapitalReckonerModel" "left" "[I", .fieldLink RX4 35 "CapitalReckonerModel" "days" "[I"] ++ wsX40)
def wsX4_weighed_r1 : List Cond := [Cond.fieldLink RX4 7 "CapitalReckonerModel" "weight" "[I", Cond.fieldLink RX4 20 "CapitalReckonerModel" "kind" "[I", Cond.fieldLink RX4 38 "CapitalReckonerModel" "better" "[I", Cond.fieldLink RX4 41 "CapitalReckonerModel" "sure" "[I", Cond.methodLink RX4 113 yX4_bared, Cond.instanceMethod yX4_bared, Cond.selects RX4 yX4_bared yX4_bared, Cond.initialized RX4, Cond.code yX4_bared cX4_bared 5 (some .int), Cond.fieldLink RX4 78 "CapitalReckonerModel" "pieces" "I", Cond.methodLink RX4 103 yX4_amounts, Cond.instanceMethod yX4_amounts, Cond.selects RX4 yX4_amounts yX4_amounts, Cond.code yX4_amounts cX4_amounts 2 (some .int), Cond.fieldLink RX4 26 "CapitalReckonerModel" "drawn" "[I", Cond.fieldLink RX4 29 "CapitalReckonerModel" "promised" "[I", Cond.methodLink RX4 99 yX4_percent, Cond.static yX4_percent, Cond.code yX4_percent cX4_percent 2 (some .int), Cond.constantLong RX4 81 (100), Cond.methodLink RX4 110 yX4_valued, Cond.instanceMethod yX4_valued, Cond.selects RX4 yX4_valued yX4_valued, Cond.code yX4_valued cX4_valued 4 (some .int)]
def wsX4_weighed_r2 : List Cond := [Cond.fieldLink RX4 44 "CapitalReckonerModel" "size" "[I", Cond.fieldLink RX4 47 "CapitalReckonerModel" "cut" "[I", Cond.fieldLink RX4 50 "CapitalReckonerModel" "coin" "[I", Cond.fieldLink RX4 32 "CapitalReckonerModel" "currency" "[I", Cond.fieldLink RX4 53 "CapitalReckonerModel" "left" "[I", Cond.fieldLink RX4 35 "CapitalReckonerModel" "days" "[I"]
def wsX4_weighed : List Cond := .code yX4_weighed cX4_weighed 7 (some .int) :: ((wsX4_weighed_r1 ++ wsX4_weighed_r2) ++ wsX40)
def wsX4_lays_r1 : List Cond := [Cond.fieldLink RX4 75 "CapitalReckonerModel" "exposures" "I", Cond.fieldLink RX4 59 "CapitalReckonerModel" "table" "[I", Cond.fieldLink RX4 78 "CapitalReckonerModel" "pieces" "I", Cond.fieldLink RX4 62 "CapitalReckonerModel" "may" "[I", Cond.fieldLink RX4 56 "CapitalReckonerModel" "uses" "[I", Cond.methodLink RX4 116 yX4_weighed, Cond.instanceMethod yX4_weighed, Cond.selects RX4 yX4_weighed yX4_weighed, Cond.initialized RX4, Cond.code yX4_weighed cX4_weighed 7 (some .int), Cond.fieldLink RX4 7 "CapitalReckonerModel" "weight" "[I", Cond.fieldLink RX4 20 "CapitalReckonerModel" "kind" "[I", Cond.fieldLink RX4 38 "CapitalReckonerModel" "better" "[I", Cond.fieldLink RX4 41 "CapitalReckonerModel" "sure" "[I", Cond.methodLink RX4 113 yX4_bared, Cond.instanceMethod yX4_bared, Cond.selects RX4 yX4_bared yX4_bared, Cond.code yX4_bared cX4_bared 5 (some .int), Cond.methodLink RX4 103 yX4_amounts, Cond.instanceMethod yX4_amounts, Cond.selects RX4 yX4_amounts yX4_amounts, Cond.code yX4_amounts cX4_amounts 2 (some .int), Cond.fieldLink RX4 26 "CapitalReckonerModel" "drawn" "[I", Cond.fieldLink RX4 29 "CapitalReckonerModel" "promised" "[I"]
def wsX4_lays_r2 : List Cond := [Cond.methodLink RX4 99 yX4_percent, Cond.static yX4_percent, Cond.code yX4_percent cX4_percent 2 (some .int), Cond.constantLong RX4 81 (100), Cond.methodLink RX4 110 yX4_valued, Cond.instanceMethod yX4_valued, Cond.selects RX4 yX4_valued yX4_valued, Cond.code yX4_valued cX4_valued 4 (some .int), Cond.fieldLink RX4 44 "CapitalReckonerModel" "size" "[I", Cond.fieldLink RX4 47 "CapitalReckonerModel" "cut" "[I", Cond.fieldLink RX4 50 "CapitalReckonerModel" "coin" "[I", Cond.fieldLink RX4 32 "CapitalReckonerModel" "currency" "[I", Cond.fieldLink RX4 53 "CapitalReckonerModel" "left" "[I", Cond.fieldLink RX4 35 "CapitalReckonerModel" "days" "[I"]
def wsX4_lays : List Cond := .code yX4_lays cX4_lays 2 none :: ((wsX4_lays_r1 ++ wsX4_lays_r2) ++ wsX40)
def wsX4_fits : List Cond := .code yX4_fits cX4_fits 5 (some .boolean) :: ([.fieldLink RX4 78 "CapitalReckonerModel" "pieces" "I", .fieldLink RX4 62 "CapitalReckonerModel" "may" "[I"] ++ wsX40)
def wsX4_leastWhole : List Cond := .code yX4_leastWhole cX4_leastWhole 7 (some .int) :: ([.fieldLink RX4 78 "CapitalReckonerModel" "pieces" "I", .fieldLink RX4 65 "CapitalReckonerModel" "least" "[I", .fieldLink RX4 75 "CapitalReckonerModel" "exposures" "I", .constant RX4 87 (1000000000), .fieldLink RX4 59 "CapitalReckonerModel" "table" "[I", .methodLink RX4 119 yX4_fits, .instanceMethod yX4_fits, .selects RX4 yX4_fits yX4_fits, .initialized RX4, .code yX4_fits cX4_fits 5 (some .boolean), .fieldLink RX4 62 "CapitalReckonerModel" "may" "[I"] ++ wsX40)
def wsX4_bests_r1 : List Cond := [Cond.fieldLink RX4 78 "CapitalReckonerModel" "pieces" "I", Cond.fieldLink RX4 62 "CapitalReckonerModel" "may" "[I", Cond.methodLink RX4 123 yX4_lays, Cond.instanceMethod yX4_lays, Cond.selects RX4 yX4_lays yX4_lays, Cond.initialized RX4, Cond.code yX4_lays cX4_lays 2 none, Cond.fieldLink RX4 75 "CapitalReckonerModel" "exposures" "I", Cond.fieldLink RX4 59 "CapitalReckonerModel" "table" "[I", Cond.fieldLink RX4 56 "CapitalReckonerModel" "uses" "[I", Cond.methodLink RX4 116 yX4_weighed, Cond.instanceMethod yX4_weighed, Cond.selects RX4 yX4_weighed yX4_weighed, Cond.code yX4_weighed cX4_weighed 7 (some .int), Cond.fieldLink RX4 7 "CapitalReckonerModel" "weight" "[I", Cond.fieldLink RX4 20 "CapitalReckonerModel" "kind" "[I", Cond.fieldLink RX4 38 "CapitalReckonerModel" "better" "[I", Cond.fieldLink RX4 41 "CapitalReckonerModel" "sure" "[I", Cond.methodLink RX4 113 yX4_bared, Cond.instanceMethod yX4_bared, Cond.selects RX4 yX4_bared yX4_bared, Cond.code yX4_bared cX4_bared 5 (some .int), Cond.methodLink RX4 103 yX4_amounts, Cond.instanceMethod yX4_amounts]
def wsX4_bests_r2 : List Cond := [Cond.selects RX4 yX4_amounts yX4_amounts, Cond.code yX4_amounts cX4_amounts 2 (some .int), Cond.fieldLink RX4 26 "CapitalReckonerModel" "drawn" "[I", Cond.fieldLink RX4 29 "CapitalReckonerModel" "promised" "[I", Cond.methodLink RX4 99 yX4_percent, Cond.static yX4_percent, Cond.code yX4_percent cX4_percent 2 (some .int), Cond.constantLong RX4 81 (100), Cond.methodLink RX4 110 yX4_valued, Cond.instanceMethod yX4_valued, Cond.selects RX4 yX4_valued yX4_valued, Cond.code yX4_valued cX4_valued 4 (some .int), Cond.fieldLink RX4 44 "CapitalReckonerModel" "size" "[I", Cond.fieldLink RX4 47 "CapitalReckonerModel" "cut" "[I", Cond.fieldLink RX4 50 "CapitalReckonerModel" "coin" "[I", Cond.fieldLink RX4 32 "CapitalReckonerModel" "currency" "[I", Cond.fieldLink RX4 53 "CapitalReckonerModel" "left" "[I", Cond.fieldLink RX4 35 "CapitalReckonerModel" "days" "[I", Cond.methodLink RX4 126 yX4_leastWhole, Cond.instanceMethod yX4_leastWhole, Cond.selects RX4 yX4_leastWhole yX4_leastWhole, Cond.code yX4_leastWhole cX4_leastWhole 7 (some .int), Cond.fieldLink RX4 65 "CapitalReckonerModel" "least" "[I", Cond.constant RX4 87 (1000000000)]
def wsX4_bests_r3 : List Cond := [Cond.methodLink RX4 119 yX4_fits, Cond.instanceMethod yX4_fits, Cond.selects RX4 yX4_fits yX4_fits, Cond.code yX4_fits cX4_fits 5 (some .boolean)]
def wsX4_bests : List Cond := .code yX4_bests cX4_bests 6 (some .int) :: ((wsX4_bests_r1 ++ (wsX4_bests_r2 ++ wsX4_bests_r3)) ++ wsX40)
def wsX4_setOf : List Cond := .code yX4_setOf cX4_setOf 4 (some .int) :: ([.fieldLink RX4 78 "CapitalReckonerModel" "pieces" "I", .fieldLink RX4 62 "CapitalReckonerModel" "may" "[I"] ++ wsX40)
def wsX4_givenTo_r1 : List Cond := [Cond.fieldLink RX4 68 "CapitalReckonerModel" "thrown" "I", Cond.fieldLink RX4 75 "CapitalReckonerModel" "exposures" "I", Cond.fieldLink RX4 62 "CapitalReckonerModel" "may" "[I", Cond.methodLink RX4 107 yX4_isPiece, Cond.instanceMethod yX4_isPiece, Cond.selects RX4 yX4_isPiece yX4_isPiece, Cond.initialized RX4, Cond.code yX4_isPiece cX4_isPiece 2 (some .boolean), Cond.fieldLink RX4 78 "CapitalReckonerModel" "pieces" "I", Cond.methodLink RX4 71 yX4_isIn, Cond.static yX4_isIn, Cond.code yX4_isIn cX4_isIn 3 (some .boolean), Cond.methodLink RX4 130 yX4_bests, Cond.instanceMethod yX4_bests, Cond.selects RX4 yX4_bests yX4_bests, Cond.code yX4_bests cX4_bests 6 (some .int), Cond.methodLink RX4 123 yX4_lays, Cond.instanceMethod yX4_lays, Cond.selects RX4 yX4_lays yX4_lays, Cond.code yX4_lays cX4_lays 2 none, Cond.fieldLink RX4 59 "CapitalReckonerModel" "table" "[I", Cond.fieldLink RX4 56 "CapitalReckonerModel" "uses" "[I", Cond.methodLink RX4 116 yX4_weighed, Cond.instanceMethod yX4_weighed]
def wsX4_givenTo_r2 : List Cond := [Cond.selects RX4 yX4_weighed yX4_weighed, Cond.code yX4_weighed cX4_weighed 7 (some .int), Cond.fieldLink RX4 7 "CapitalReckonerModel" "weight" "[I", Cond.fieldLink RX4 20 "CapitalReckonerModel" "kind" "[I", Cond.fieldLink RX4 38 "CapitalReckonerModel" "better" "[I", Cond.fieldLink RX4 41 "CapitalReckonerModel" "sure" "[I", Cond.methodLink RX4 113 yX4_bared, Cond.instanceMethod yX4_bared, Cond.selects RX4 yX4_bared yX4_bared, Cond.code yX4_bared cX4_bared 5 (some .int), Cond.methodLink RX4 103 yX4_amounts, Cond.instanceMethod yX4_amounts, Cond.selects RX4 yX4_amounts yX4_amounts, Cond.code yX4_amounts cX4_amounts 2 (some .int), Cond.fieldLink RX4 26 "CapitalReckonerModel" "drawn" "[I", Cond.fieldLink RX4 29 "CapitalReckonerModel" "promised" "[I", Cond.methodLink RX4 99 yX4_percent, Cond.static yX4_percent, Cond.code yX4_percent cX4_percent 2 (some .int), Cond.constantLong RX4 81 (100), Cond.methodLink RX4 110 yX4_valued, Cond.instanceMethod yX4_valued, Cond.selects RX4 yX4_valued yX4_valued, Cond.code yX4_valued cX4_valued 4 (some .int)]
def wsX4_givenTo_r3 : List Cond := [Cond.fieldLink RX4 44 "CapitalReckonerModel" "size" "[I", Cond.fieldLink RX4 47 "CapitalReckonerModel" "cut" "[I", Cond.fieldLink RX4 50 "CapitalReckonerModel" "coin" "[I", Cond.fieldLink RX4 32 "CapitalReckonerModel" "currency" "[I", Cond.fieldLink RX4 53 "CapitalReckonerModel" "left" "[I", Cond.fieldLink RX4 35 "CapitalReckonerModel" "days" "[I", Cond.methodLink RX4 126 yX4_leastWhole, Cond.instanceMethod yX4_leastWhole, Cond.selects RX4 yX4_leastWhole yX4_leastWhole, Cond.code yX4_leastWhole cX4_leastWhole 7 (some .int), Cond.fieldLink RX4 65 "CapitalReckonerModel" "least" "[I", Cond.constant RX4 87 (1000000000), Cond.methodLink RX4 119 yX4_fits, Cond.instanceMethod yX4_fits, Cond.selects RX4 yX4_fits yX4_fits, Cond.code yX4_fits cX4_fits 5 (some .boolean)]
def wsX4_givenTo : List Cond := .code yX4_givenTo cX4_givenTo 3 (some .int) :: ((wsX4_givenTo_r1 ++ (wsX4_givenTo_r2 ++ wsX4_givenTo_r3)) ++ wsX40)
def wsX4_bare_r1 : List Cond := [Cond.fieldLink RX4 68 "CapitalReckonerModel" "thrown" "I", Cond.methodLink RX4 95 yX4_isExposure, Cond.instanceMethod yX4_isExposure, Cond.selects RX4 yX4_isExposure yX4_isExposure, Cond.initialized RX4, Cond.code yX4_isExposure cX4_isExposure 2 (some .boolean), Cond.fieldLink RX4 75 "CapitalReckonerModel" "exposures" "I", Cond.methodLink RX4 71 yX4_isIn, Cond.static yX4_isIn, Cond.code yX4_isIn cX4_isIn 3 (some .boolean), Cond.methodLink RX4 130 yX4_bests, Cond.instanceMethod yX4_bests, Cond.selects RX4 yX4_bests yX4_bests, Cond.code yX4_bests cX4_bests 6 (some .int), Cond.fieldLink RX4 78 "CapitalReckonerModel" "pieces" "I", Cond.fieldLink RX4 62 "CapitalReckonerModel" "may" "[I", Cond.methodLink RX4 123 yX4_lays, Cond.instanceMethod yX4_lays, Cond.selects RX4 yX4_lays yX4_lays, Cond.code yX4_lays cX4_lays 2 none, Cond.fieldLink RX4 59 "CapitalReckonerModel" "table" "[I", Cond.fieldLink RX4 56 "CapitalReckonerModel" "uses" "[I", Cond.methodLink RX4 116 yX4_weighed, Cond.instanceMethod yX4_weighed]
def wsX4_bare_r2 : List Cond := [Cond.selects RX4 yX4_weighed yX4_weighed, Cond.code yX4_weighed cX4_weighed 7 (some .int), Cond.fieldLink RX4 7 "CapitalReckonerModel" "weight" "[I", Cond.fieldLink RX4 20 "CapitalReckonerModel" "kind" "[I", Cond.fieldLink RX4 38 "CapitalReckonerModel" "better" "[I", Cond.fieldLink RX4 41 "CapitalReckonerModel" "sure" "[I", Cond.methodLink RX4 113 yX4_bared, Cond.instanceMethod yX4_bared, Cond.selects RX4 yX4_bared yX4_bared, Cond.code yX4_bared cX4_bared 5 (some .int), Cond.methodLink RX4 103 yX4_amounts, Cond.instanceMethod yX4_amounts, Cond.selects RX4 yX4_amounts yX4_amounts, Cond.code yX4_amounts cX4_amounts 2 (some .int), Cond.fieldLink RX4 26 "CapitalReckonerModel" "drawn" "[I", Cond.fieldLink RX4 29 "CapitalReckonerModel" "promised" "[I", Cond.methodLink RX4 99 yX4_percent, Cond.static yX4_percent, Cond.code yX4_percent cX4_percent 2 (some .int), Cond.constantLong RX4 81 (100), Cond.methodLink RX4 110 yX4_valued, Cond.instanceMethod yX4_valued, Cond.selects RX4 yX4_valued yX4_valued, Cond.code yX4_valued cX4_valued 4 (some .int)]
def wsX4_bare_r3 : List Cond := [Cond.fieldLink RX4 44 "CapitalReckonerModel" "size" "[I", Cond.fieldLink RX4 47 "CapitalReckonerModel" "cut" "[I", Cond.fieldLink RX4 50 "CapitalReckonerModel" "coin" "[I", Cond.fieldLink RX4 32 "CapitalReckonerModel" "currency" "[I", Cond.fieldLink RX4 53 "CapitalReckonerModel" "left" "[I", Cond.fieldLink RX4 35 "CapitalReckonerModel" "days" "[I", Cond.methodLink RX4 126 yX4_leastWhole, Cond.instanceMethod yX4_leastWhole, Cond.selects RX4 yX4_leastWhole yX4_leastWhole, Cond.code yX4_leastWhole cX4_leastWhole 7 (some .int), Cond.fieldLink RX4 65 "CapitalReckonerModel" "least" "[I", Cond.constant RX4 87 (1000000000), Cond.methodLink RX4 119 yX4_fits, Cond.instanceMethod yX4_fits, Cond.selects RX4 yX4_fits yX4_fits, Cond.code yX4_fits cX4_fits 5 (some .boolean), Cond.methodLink RX4 133 yX4_setOf, Cond.instanceMethod yX4_setOf, Cond.selects RX4 yX4_setOf yX4_setOf, Cond.code yX4_setOf cX4_setOf 4 (some .int)]
def wsX4_bare : List Cond := .code yX4_bare cX4_bare 2 (some .int) :: ((wsX4_bare_r1 ++ (wsX4_bare_r2 ++ wsX4_bare_r3)) ++ wsX40)
def wsX4_weighted_r1 : List Cond := [Cond.fieldLink RX4 68 "CapitalReckonerModel" "thrown" "I", Cond.methodLink RX4 95 yX4_isExposure, Cond.instanceMethod yX4_isExposure, Cond.selects RX4 yX4_isExposure yX4_isExposure, Cond.initialized RX4, Cond.code yX4_isExposure cX4_isExposure 2 (some .boolean), Cond.fieldLink RX4 75 "CapitalReckonerModel" "exposures" "I", Cond.methodLink RX4 71 yX4_isIn, Cond.static yX4_isIn, Cond.code yX4_isIn cX4_isIn 3 (some .boolean), Cond.methodLink RX4 130 yX4_bests, Cond.instanceMethod yX4_bests, Cond.selects RX4 yX4_bests yX4_bests, Cond.code yX4_bests cX4_bests 6 (some .int), Cond.fieldLink RX4 78 "CapitalReckonerModel" "pieces" "I", Cond.fieldLink RX4 62 "CapitalReckonerModel" "may" "[I", Cond.methodLink RX4 123 yX4_lays, Cond.instanceMethod yX4_lays, Cond.selects RX4 yX4_lays yX4_lays, Cond.code yX4_lays cX4_lays 2 none, Cond.fieldLink RX4 59 "CapitalReckonerModel" "table" "[I", Cond.fieldLink RX4 56 "CapitalReckonerModel" "uses" "[I", Cond.methodLink RX4 116 yX4_weighed, Cond.instanceMethod yX4_weighed]
def wsX4_weighted_r2 : List Cond := [Cond.selects RX4 yX4_weighed yX4_weighed, Cond.code yX4_weighed cX4_weighed 7 (some .int), Cond.fieldLink RX4 7 "CapitalReckonerModel" "weight" "[I", Cond.fieldLink RX4 20 "CapitalReckonerModel" "kind" "[I", Cond.fieldLink RX4 38 "CapitalReckonerModel" "better" "[I", Cond.fieldLink RX4 41 "CapitalReckonerModel" "sure" "[I", Cond.methodLink RX4 113 yX4_bared, Cond.instanceMethod yX4_bared, Cond.selects RX4 yX4_bared yX4_bared, Cond.code yX4_bared cX4_bared 5 (some .int), Cond.methodLink RX4 103 yX4_amounts, Cond.instanceMethod yX4_amounts, Cond.selects RX4 yX4_amounts yX4_amounts, Cond.code yX4_amounts cX4_amounts 2 (some .int), Cond.fieldLink RX4 26 "CapitalReckonerModel" "drawn" "[I", Cond.fieldLink RX4 29 "CapitalReckonerModel" "promised" "[I", Cond.methodLink RX4 99 yX4_percent, Cond.static yX4_percent, Cond.code yX4_percent cX4_percent 2 (some .int), Cond.constantLong RX4 81 (100), Cond.methodLink RX4 110 yX4_valued, Cond.instanceMethod yX4_valued, Cond.selects RX4 yX4_valued yX4_valued, Cond.code yX4_valued cX4_valued 4 (some .int)]
def wsX4_weighted_r3 : List Cond := [Cond.fieldLink RX4 44 "CapitalReckonerModel" "size" "[I", Cond.fieldLink RX4 47 "CapitalReckonerModel" "cut" "[I", Cond.fieldLink RX4 50 "CapitalReckonerModel" "coin" "[I", Cond.fieldLink RX4 32 "CapitalReckonerModel" "currency" "[I", Cond.fieldLink RX4 53 "CapitalReckonerModel" "left" "[I", Cond.fieldLink RX4 35 "CapitalReckonerModel" "days" "[I", Cond.methodLink RX4 126 yX4_leastWhole, Cond.instanceMethod yX4_leastWhole, Cond.selects RX4 yX4_leastWhole yX4_leastWhole, Cond.code yX4_leastWhole cX4_leastWhole 7 (some .int), Cond.fieldLink RX4 65 "CapitalReckonerModel" "least" "[I", Cond.constant RX4 87 (1000000000), Cond.methodLink RX4 119 yX4_fits, Cond.instanceMethod yX4_fits, Cond.selects RX4 yX4_fits yX4_fits, Cond.code yX4_fits cX4_fits 5 (some .boolean), Cond.methodLink RX4 133 yX4_setOf, Cond.instanceMethod yX4_setOf, Cond.selects RX4 yX4_setOf yX4_setOf, Cond.code yX4_setOf cX4_setOf 4 (some .int)]
def wsX4_weighted : List Cond := .code yX4_weighted cX4_weighted 2 (some .int) :: ((wsX4_weighted_r1 ++ (wsX4_weighted_r2 ++ wsX4_weighted_r3)) ++ wsX40)
def wsX4_wholes_r1 : List Cond := [Cond.methodLink RX4 123 yX4_lays, Cond.instanceMethod yX4_lays, Cond.selects RX4 yX4_lays yX4_lays, Cond.initialized RX4, Cond.code yX4_lays cX4_lays 2 none, Cond.fieldLink RX4 75 "CapitalReckonerModel" "exposures" "I", Cond.fieldLink RX4 59 "CapitalReckonerModel" "table" "[I", Cond.fieldLink RX4 78 "CapitalReckonerModel" "pieces" "I", Cond.fieldLink RX4 62 "CapitalReckonerModel" "may" "[I", Cond.fieldLink RX4 56 "CapitalReckonerModel" "uses" "[I", Cond.methodLink RX4 116 yX4_weighed, Cond.instanceMethod yX4_weighed, Cond.selects RX4 yX4_weighed yX4_weighed, Cond.code yX4_weighed cX4_weighed 7 (some .int), Cond.fieldLink RX4 7 "CapitalReckonerModel" "weight" "[I", Cond.fieldLink RX4 20 "CapitalReckonerModel" "kind" "[I", Cond.fieldLink RX4 38 "CapitalReckonerModel" "better" "[I", Cond.fieldLink RX4 41 "CapitalReckonerModel" "sure" "[I", Cond.methodLink RX4 113 yX4_bared, Cond.instanceMethod yX4_bared, Cond.selects RX4 yX4_bared yX4_bared, Cond.code yX4_bared cX4_bared 5 (some .int), Cond.methodLink RX4 103 yX4_amounts, Cond.instanceMethod yX4_amounts]
def wsX4_wholes_r2 : List Cond := [Cond.selects RX4 yX4_amounts yX4_amounts, Cond.code yX4_amounts cX4_amounts 2 (some .int), Cond.fieldLink RX4 26 "CapitalReckonerModel" "drawn" "[I", Cond.fieldLink RX4 29 "CapitalReckonerModel" "promised" "[I", Cond.methodLink RX4 99 yX4_percent, Cond.static yX4_percent, Cond.code yX4_percent cX4_percent 2 (some .int), Cond.constantLong RX4 81 (100), Cond.methodLink RX4 110 yX4_valued, Cond.instanceMethod yX4_valued, Cond.selects RX4 yX4_valued yX4_valued, Cond.code yX4_valued cX4_valued 4 (some .int), Cond.fieldLink RX4 44 "CapitalReckonerModel" "size" "[I", Cond.fieldLink RX4 47 "CapitalReckonerModel" "cut" "[I", Cond.fieldLink RX4 50 "CapitalReckonerModel" "coin" "[I", Cond.fieldLink RX4 32 "CapitalReckonerModel" "currency" "[I", Cond.fieldLink RX4 53 "CapitalReckonerModel" "left" "[I", Cond.fieldLink RX4 35 "CapitalReckonerModel" "days" "[I", Cond.methodLink RX4 126 yX4_leastWhole, Cond.instanceMethod yX4_leastWhole, Cond.selects RX4 yX4_leastWhole yX4_leastWhole, Cond.code yX4_leastWhole cX4_leastWhole 7 (some .int), Cond.fieldLink RX4 65 "CapitalReckonerModel" "least" "[I", Cond.constant RX4 87 (1000000000)]
def wsX4_wholes_r3 : List Cond := [Cond.methodLink RX4 119 yX4_fits, Cond.instanceMethod yX4_fits, Cond.selects RX4 yX4_fits yX4_fits, Cond.code yX4_fits cX4_fits 5 (some .boolean)]
def wsX4_wholes : List Cond := .code yX4_wholes cX4_wholes 1 (some .int) :: ((wsX4_wholes_r1 ++ (wsX4_wholes_r2 ++ wsX4_wholes_r3)) ++ wsX40)
def wsX4_whole_r1 : List Cond := [Cond.fieldLink RX4 68 "CapitalReckonerModel" "thrown" "I", Cond.methodLink RX4 136 yX4_wholes, Cond.instanceMethod yX4_wholes, Cond.selects RX4 yX4_wholes yX4_wholes, Cond.initialized RX4, Cond.code yX4_wholes cX4_wholes 1 (some .int), Cond.methodLink RX4 123 yX4_lays, Cond.instanceMethod yX4_lays, Cond.selects RX4 yX4_lays yX4_lays, Cond.code yX4_lays cX4_lays 2 none, Cond.fieldLink RX4 75 "CapitalReckonerModel" "exposures" "I", Cond.fieldLink RX4 59 "CapitalReckonerModel" "table" "[I", Cond.fieldLink RX4 78 "CapitalReckonerModel" "pieces" "I", Cond.fieldLink RX4 62 "CapitalReckonerModel" "may" "[I", Cond.fieldLink RX4 56 "CapitalReckonerModel" "uses" "[I", Cond.methodLink RX4 116 yX4_weighed, Cond.instanceMethod yX4_weighed, Cond.selects RX4 yX4_weighed yX4_weighed, Cond.code yX4_weighed cX4_weighed 7 (some .int), Cond.fieldLink RX4 7 "CapitalReckonerModel" "weight" "[I", Cond.fieldLink RX4 20 "CapitalReckonerModel" "kind" "[I", Cond.fieldLink RX4 38 "CapitalReckonerModel" "better" "[I", Cond.fieldLink RX4 41 "CapitalReckonerModel" "sure" "[I", Cond.methodLink RX4 113 yX4_bared]
def wsX4_whole_r2 : List Cond := [Cond.instanceMethod yX4_bared, Cond.selects RX4 yX4_bared yX4_bared, Cond.code yX4_bared cX4_bared 5 (some .int), Cond.methodLink RX4 103 yX4_amounts, Cond.instanceMethod yX4_amounts, Cond.selects RX4 yX4_amounts yX4_amounts, Cond.code yX4_amounts cX4_amounts 2 (some .int), Cond.fieldLink RX4 26 "CapitalReckonerModel" "drawn" "[I", Cond.fieldLink RX4 29 "CapitalReckonerModel" "promised" "[I", Cond.methodLink RX4 99 yX4_percent, Cond.static yX4_percent, Cond.code yX4_percent cX4_percent 2 (some .int), Cond.constantLong RX4 81 (100), Cond.methodLink RX4 110 yX4_valued, Cond.instanceMethod yX4_valued, Cond.selects RX4 yX4_valued yX4_valued, Cond.code yX4_valued cX4_valued 4 (some .int), Cond.fieldLink RX4 44 "CapitalReckonerModel" "size" "[I", Cond.fieldLink RX4 47 "CapitalReckonerModel" "cut" "[I", Cond.fieldLink RX4 50 "CapitalReckonerModel" "coin" "[I", Cond.fieldLink RX4 32 "CapitalReckonerModel" "currency" "[I", Cond.fieldLink RX4 53 "CapitalReckonerModel" "left" "[I", Cond.fieldLink RX4 35 "CapitalReckonerModel" "days" "[I", Cond.methodLink RX4 126 yX4_leastWhole]
def wsX4_whole_r3 : List Cond := [Cond.instanceMethod yX4_leastWhole, Cond.selects RX4 yX4_leastWhole yX4_leastWhole, Cond.code yX4_leastWhole cX4_leastWhole 7 (some .int), Cond.fieldLink RX4 65 "CapitalReckonerModel" "least" "[I", Cond.constant RX4 87 (1000000000), Cond.methodLink RX4 119 yX4_fits, Cond.instanceMethod yX4_fits, Cond.selects RX4 yX4_fits yX4_fits, Cond.code yX4_fits cX4_fits 5 (some .boolean)]
def wsX4_whole : List Cond := .code yX4_whole cX4_whole 1 (some .int) :: ((wsX4_whole_r1 ++ (wsX4_whole_r2 ++ wsX4_whole_r3)) ++ wsX40)
def wsX4_wholeByTrying_r1 : List Cond := [Cond.fieldLink RX4 68 "CapitalReckonerModel" "thrown" "I", Cond.methodLink RX4 136 yX4_wholes, Cond.instanceMethod yX4_wholes, Cond.selects RX4 yX4_wholes yX4_wholes, Cond.initialized RX4, Cond.code yX4_wholes cX4_wholes 1 (some .int), Cond.methodLink RX4 123 yX4_lays, Cond.instanceMethod yX4_lays, Cond.selects RX4 yX4_lays yX4_lays, Cond.code yX4_lays cX4_lays 2 none, Cond.fieldLink RX4 75 "CapitalReckonerModel" "exposures" "I", Cond.fieldLink RX4 59 "CapitalReckonerModel" "table" "[I", Cond.fieldLink RX4 78 "CapitalReckonerModel" "pieces" "I", Cond.fieldLink RX4 62 "CapitalReckonerModel" "may" "[I", Cond.fieldLink RX4 56 "CapitalReckonerModel" "uses" "[I", Cond.methodLink RX4 116 yX4_weighed, Cond.instanceMethod yX4_weighed, Cond.selects RX4 yX4_weighed yX4_weighed, Cond.code yX4_weighed cX4_weighed 7 (some .int), Cond.fieldLink RX4 7 "CapitalReckonerModel" "weight" "[I", Cond.fieldLink RX4 20 "CapitalReckonerModel" "kind" "[I", Cond.fieldLink RX4 38 "CapitalReckonerModel" "better" "[I", Cond.fieldLink RX4 41 "CapitalReckonerModel" "sure" "[I", Cond.methodLink RX4 113 yX4_bared]
def wsX4_wholeByTrying_r2 : List Cond := [Cond.instanceMethod yX4_bared, Cond.selects RX4 yX4_bared yX4_bared, Cond.code yX4_bared cX4_bared 5 (some .int), Cond.methodLink RX4 103 yX4_amounts, Cond.instanceMethod yX4_amounts, Cond.selects RX4 yX4_amounts yX4_amounts, Cond.code yX4_amounts cX4_amounts 2 (some .int), Cond.fieldLink RX4 26 "CapitalReckonerModel" "drawn" "[I", Cond.fieldLink RX4 29 "CapitalReckonerModel" "promised" "[I", Cond.methodLink RX4 99 yX4_percent, Cond.static yX4_percent, Cond.code yX4_percent cX4_percent 2 (some .int), Cond.constantLong RX4 81 (100), Cond.methodLink RX4 110 yX4_valued, Cond.instanceMethod yX4_valued, Cond.selects RX4 yX4_valued yX4_valued, Cond.code yX4_valued cX4_valued 4 (some .int), Cond.fieldLink RX4 44 "CapitalReckonerModel" "size" "[I", Cond.fieldLink RX4 47 "CapitalReckonerModel" "cut" "[I", Cond.fieldLink RX4 50 "CapitalReckonerModel" "coin" "[I", Cond.fieldLink RX4 32 "CapitalReckonerModel" "currency" "[I", Cond.fieldLink RX4 53 "CapitalReckonerModel" "left" "[I", Cond.fieldLink RX4 35 "CapitalReckonerModel" "days" "[I", Cond.methodLink RX4 126 yX4_leastWhole]
def wsX4_wholeByTrying_r3 : List Cond := [Cond.instanceMethod yX4_leastWhole, Cond.selects RX4 yX4_leastWhole yX4_leastWhole, Cond.code yX4_leastWhole cX4_leastWhole 7 (some .int), Cond.fieldLink RX4 65 "CapitalReckonerModel" "least" "[I", Cond.constant RX4 87 (1000000000), Cond.methodLink RX4 119 yX4_fits, Cond.instanceMethod yX4_fits, Cond.selects RX4 yX4_fits yX4_fits, Cond.code yX4_fits cX4_fits 5 (some .boolean)]
def wsX4_wholeByTrying : List Cond := .code yX4_wholeByTrying cX4_wholeByTrying 1 (some .int) :: ((wsX4_wholeByTrying_r1 ++ (wsX4_wholeByTrying_r2 ++ wsX4_wholeByTrying_r3)) ++ wsX40)
def wsX4_worth_r1 : List Cond := [Cond.fieldLink RX4 68 "CapitalReckonerModel" "thrown" "I", Cond.fieldLink RX4 62 "CapitalReckonerModel" "may" "[I", Cond.methodLink RX4 107 yX4_isPiece, Cond.instanceMethod yX4_isPiece, Cond.selects RX4 yX4_isPiece yX4_isPiece, Cond.initialized RX4, Cond.code yX4_isPiece cX4_isPiece 2 (some .boolean), Cond.fieldLink RX4 78 "CapitalReckonerModel" "pieces" "I", Cond.methodLink RX4 71 yX4_isIn, Cond.static yX4_isIn, Cond.code yX4_isIn cX4_isIn 3 (some .boolean), Cond.methodLink RX4 136 yX4_wholes, Cond.instanceMethod yX4_wholes, Cond.selects RX4 yX4_wholes yX4_wholes, Cond.code yX4_wholes cX4_wholes 1 (some .int), Cond.methodLink RX4 123 yX4_lays, Cond.instanceMethod yX4_lays, Cond.selects RX4 yX4_lays yX4_lays, Cond.code yX4_lays cX4_lays 2 none, Cond.fieldLink RX4 75 "CapitalReckonerModel" "exposures" "I", Cond.fieldLink RX4 59 "CapitalReckonerModel" "table" "[I", Cond.fieldLink RX4 56 "CapitalReckonerModel" "uses" "[I", Cond.methodLink RX4 116 yX4_weighed, Cond.instanceMethod yX4_weighed]
def wsX4_worth_r2 : List Cond := [Cond.selects RX4 yX4_weighed yX4_weighed, Cond.code yX4_weighed cX4_weighed 7 (some .int), Cond.fieldLink RX4 7 "CapitalReckonerModel" "weight" "[I", Cond.fieldLink RX4 20 "CapitalReckonerModel" "kind" "[I", Cond.fieldLink RX4 38 "CapitalReckonerModel" "better" "[I", Cond.fieldLink RX4 41 "CapitalReckonerModel" "sure" "[I", Cond.methodLink RX4 113 yX4_bared, Cond.instanceMethod yX4_bared, Cond.selects RX4 yX4_bared yX4_bared, Cond.code yX4_bared cX4_bared 5 (some .int), Cond.methodLink RX4 103 yX4_amounts, Cond.instanceMethod yX4_amounts, Cond.selects RX4 yX4_amounts yX4_amounts, Cond.code yX4_amounts cX4_amounts 2 (some .int), Cond.fieldLink RX4 26 "CapitalReckonerModel" "drawn" "[I", Cond.fieldLink RX4 29 "CapitalReckonerModel" "promised" "[I", Cond.methodLink RX4 99 yX4_percent, Cond.static yX4_percent, Cond.code yX4_percent cX4_percent 2 (some .int), Cond.constantLong RX4 81 (100), Cond.methodLink RX4 110 yX4_valued, Cond.instanceMethod yX4_valued, Cond.selects RX4 yX4_valued yX4_valued, Cond.code yX4_valued cX4_valued 4 (some .int)]
def wsX4_worth_r3 : List Cond := [Cond.fieldLink RX4 44 "CapitalReckonerModel" "size" "[I", Cond.fieldLink RX4 47 "CapitalReckonerModel" "cut" "[I", Cond.fieldLink RX4 50 "CapitalReckonerModel" "coin" "[I", Cond.fieldLink RX4 32 "CapitalReckonerModel" "currency" "[I", Cond.fieldLink RX4 53 "CapitalReckonerModel" "left" "[I", Cond.fieldLink RX4 35 "CapitalReckonerModel" "days" "[I", Cond.methodLink RX4 126 yX4_leastWhole, Cond.instanceMethod yX4_leastWhole, Cond.selects RX4 yX4_leastWhole yX4_leastWhole, Cond.code yX4_leastWhole cX4_leastWhole 7 (some .int), Cond.fieldLink RX4 65 "CapitalReckonerModel" "least" "[I", Cond.constant RX4 87 (1000000000), Cond.methodLink RX4 119 yX4_fits, Cond.instanceMethod yX4_fits, Cond.selects RX4 yX4_fits yX4_fits, Cond.code yX4_fits cX4_fits 5 (some .boolean)]
def wsX4_worth : List Cond := .code yX4_worth cX4_worth 3 (some .int) :: ((wsX4_worth_r1 ++ (wsX4_worth_r2 ++ wsX4_worth_r3)) ++ wsX40)
def wsX4_plains : List Cond := .code yX4_plains cX4_plains 3 (some .int) :: ([.fieldLink RX4 75 "CapitalReckonerModel" "exposures" "I", .fieldLink RX4 13 "CapitalReckonerModel" "simple" "[I", .fieldLink RX4 20 "CapitalReckonerModel" "kind" "[I", .methodLink RX4 103 yX4_amounts, .instanceMethod yX4_amounts, .selects RX4 yX4_amounts yX4_amounts, .initialized RX4, .code yX4_amounts cX4_amounts 2 (some .int), .fieldLink RX4 26 "CapitalReckonerModel" "drawn" "[I", .fieldLink RX4 29 "CapitalReckonerModel" "promised" "[I", .methodLink RX4 99 yX4_percent, .static yX4_percent, .code yX4_percent cX4_percent 2 (some .int), .constantLong RX4 81 (100)] ++ wsX40)
def wsX4_plain : List Cond := .code yX4_plain cX4_plain 1 (some .int) :: ([.fieldLink RX4 68 "CapitalReckonerModel" "thrown" "I", .methodLink RX4 139 yX4_plains, .instanceMethod yX4_plains, .selects RX4 yX4_plains yX4_plains, .initialized RX4, .code yX4_plains cX4_plains 3 (some .int), .fieldLink RX4 75 "CapitalReckonerModel" "exposures" "I", .fieldLink RX4 13 "CapitalReckonerModel" "simple" "[I", .fieldLink RX4 20 "CapitalReckonerModel" "kind" "[I", .methodLink RX4 103 yX4_amounts, .instanceMethod yX4_amounts, .selects RX4 yX4_amounts yX4_amounts, .code yX4_amounts cX4_amounts 2 (some .int), .fieldLink RX4 26 "CapitalReckonerModel" "drawn" "[I", .fieldLink RX4 29 "CapitalReckonerModel" "promised" "[I", .methodLink RX4 99 yX4_percent, .static yX4_percent, .code yX4_percent cX4_percent 2 (some .int), .constantLong RX4 81 (100)] ++ wsX40)
def wsX4_required_r1 : List Cond := [Cond.fieldLink RX4 68 "CapitalReckonerModel" "thrown" "I", Cond.fieldLink RX4 16 "CapitalReckonerModel" "floor" "I", Cond.methodLink RX4 139 yX4_plains, Cond.instanceMethod yX4_plains, Cond.selects RX4 yX4_plains yX4_plains, Cond.initialized RX4, Cond.code yX4_plains cX4_plains 3 (some .int), Cond.fieldLink RX4 75 "CapitalReckonerModel" "exposures" "I", Cond.fieldLink RX4 13 "CapitalReckonerModel" "simple" "[I", Cond.fieldLink RX4 20 "CapitalReckonerModel" "kind" "[I", Cond.methodLink RX4 103 yX4_amounts, Cond.instanceMethod yX4_amounts, Cond.selects RX4 yX4_amounts yX4_amounts, Cond.code yX4_amounts cX4_amounts 2 (some .int), Cond.fieldLink RX4 26 "CapitalReckonerModel" "drawn" "[I", Cond.fieldLink RX4 29 "CapitalReckonerModel" "promised" "[I", Cond.methodLink RX4 99 yX4_percent, Cond.static yX4_percent, Cond.code yX4_percent cX4_percent 2 (some .int), Cond.constantLong RX4 81 (100), Cond.methodLink RX4 136 yX4_wholes, Cond.instanceMethod yX4_wholes, Cond.selects RX4 yX4_wholes yX4_wholes, Cond.code yX4_wholes cX4_wholes 1 (some .int)]
def wsX4_required_r2 : List Cond := [Cond.methodLink RX4 123 yX4_lays, Cond.instanceMethod yX4_lays, Cond.selects RX4 yX4_lays yX4_lays, Cond.code yX4_lays cX4_lays 2 none, Cond.fieldLink RX4 59 "CapitalReckonerModel" "table" "[I", Cond.fieldLink RX4 78 "CapitalReckonerModel" "pieces" "I", Cond.fieldLink RX4 62 "CapitalReckonerModel" "may" "[I", Cond.fieldLink RX4 56 "CapitalReckonerModel" "uses" "[I", Cond.methodLink RX4 116 yX4_weighed, Cond.instanceMethod yX4_weighed, Cond.selects RX4 yX4_weighed yX4_weighed, Cond.code yX4_weighed cX4_weighed 7 (some .int), Cond.fieldLink RX4 7 "CapitalReckonerModel" "weight" "[I", Cond.fieldLink RX4 38 "CapitalReckonerModel" "better" "[I", Cond.fieldLink RX4 41 "CapitalReckonerModel" "sure" "[I", Cond.methodLink RX4 113 yX4_bared, Cond.instanceMethod yX4_bared, Cond.selects RX4 yX4_bared yX4_bared, Cond.code yX4_bared cX4_bared 5 (some .int), Cond.methodLink RX4 110 yX4_valued, Cond.instanceMethod yX4_valued, Cond.selects RX4 yX4_valued yX4_valued, Cond.code yX4_valued cX4_valued 4 (some .int), Cond.fieldLink RX4 44 "CapitalReckonerModel" "size" "[I"]
def wsX4_required_r3 : List Cond := [Cond.fieldLink RX4 47 "CapitalReckonerModel" "cut" "[I", Cond.fieldLink RX4 50 "CapitalReckonerModel" "coin" "[I", Cond.fieldLink RX4 32 "CapitalReckonerModel" "currency" "[I", Cond.fieldLink RX4 53 "CapitalReckonerModel" "left" "[I", Cond.fieldLink RX4 35 "CapitalReckonerModel" "days" "[I", Cond.methodLink RX4 126 yX4_leastWhole, Cond.instanceMethod yX4_leastWhole, Cond.selects RX4 yX4_leastWhole yX4_leastWhole, Cond.code yX4_leastWhole cX4_leastWhole 7 (some .int), Cond.fieldLink RX4 65 "CapitalReckonerModel" "least" "[I", Cond.constant RX4 87 (1000000000), Cond.methodLink RX4 119 yX4_fits, Cond.instanceMethod yX4_fits, Cond.selects RX4 yX4_fits yX4_fits, Cond.code yX4_fits cX4_fits 5 (some .boolean)]
def wsX4_required : List Cond := .code yX4_required cX4_required 3 (some .int) :: ((wsX4_required_r1 ++ (wsX4_required_r2 ++ wsX4_required_r3)) ++ wsX40)
def wsX4_baredOf_r1 : List Cond := [Cond.fieldLink RX4 75 "CapitalReckonerModel" "exposures" "I", Cond.fieldLink RX4 23 "CapitalReckonerModel" "party" "[I", Cond.methodLink RX4 133 yX4_setOf, Cond.instanceMethod yX4_setOf, Cond.selects RX4 yX4_setOf yX4_setOf, Cond.initialized RX4, Cond.code yX4_setOf cX4_setOf 4 (some .int), Cond.fieldLink RX4 78 "CapitalReckonerModel" "pieces" "I", Cond.fieldLink RX4 62 "CapitalReckonerModel" "may" "[I", Cond.methodLink RX4 113 yX4_bared, Cond.instanceMethod yX4_bared, Cond.selects RX4 yX4_bared yX4_bared, Cond.code yX4_bared cX4_bared 5 (some .int), Cond.methodLink RX4 103 yX4_amounts, Cond.instanceMethod yX4_amounts, Cond.selects RX4 yX4_amounts yX4_amounts, Cond.code yX4_amounts cX4_amounts 2 (some .int), Cond.fieldLink RX4 26 "CapitalReckonerModel" "drawn" "[I", Cond.fieldLink RX4 29 "CapitalReckonerModel" "promised" "[I", Cond.methodLink RX4 99 yX4_percent, Cond.static yX4_percent, Cond.code yX4_percent cX4_percent 2 (some .int), Cond.constantLong RX4 81 (100), Cond.methodLink RX4 110 yX4_valued]
def wsX4_baredOf_r2 : List Cond := [Cond.instanceMethod yX4_valued, Cond.selects RX4 yX4_valued yX4_valued, Cond.code yX4_valued cX4_valued 4 (some .int), Cond.fieldLink RX4 44 "CapitalReckonerModel" "size" "[I", Cond.fieldLink RX4 47 "CapitalReckonerModel" "cut" "[I", Cond.fieldLink RX4 50 "CapitalReckonerModel" "coin" "[I", Cond.fieldLink RX4 32 "CapitalReckonerModel" "currency" "[I", Cond.fieldLink RX4 53 "CapitalReckonerModel" "left" "[I", Cond.fieldLink RX4 35 "CapitalReckonerModel" "days" "[I"]
def wsX4_baredOf : List Cond := .code yX4_baredOf cX4_baredOf 4 (some .int) :: ((wsX4_baredOf_r1 ++ wsX4_baredOf_r2) ++ wsX40)
def wsX4_partyBare_r1 : List Cond := [Cond.fieldLink RX4 68 "CapitalReckonerModel" "thrown" "I", Cond.methodLink RX4 83 yX4_isFour, Cond.static yX4_isFour, Cond.initialized RX4, Cond.code yX4_isFour cX4_isFour 1 (some .boolean), Cond.methodLink RX4 71 yX4_isIn, Cond.static yX4_isIn, Cond.code yX4_isIn cX4_isIn 3 (some .boolean), Cond.methodLink RX4 130 yX4_bests, Cond.instanceMethod yX4_bests, Cond.selects RX4 yX4_bests yX4_bests, Cond.code yX4_bests cX4_bests 6 (some .int), Cond.fieldLink RX4 78 "CapitalReckonerModel" "pieces" "I", Cond.fieldLink RX4 62 "CapitalReckonerModel" "may" "[I", Cond.methodLink RX4 123 yX4_lays, Cond.instanceMethod yX4_lays, Cond.selects RX4 yX4_lays yX4_lays, Cond.code yX4_lays cX4_lays 2 none, Cond.fieldLink RX4 75 "CapitalReckonerModel" "exposures" "I", Cond.fieldLink RX4 59 "CapitalReckonerModel" "table" "[I", Cond.fieldLink RX4 56 "CapitalReckonerModel" "uses" "[I", Cond.methodLink RX4 116 yX4_weighed, Cond.instanceMethod yX4_weighed, Cond.selects RX4 yX4_weighed yX4_weighed]
def wsX4_partyBare_r2 : List Cond := [Cond.code yX4_weighed cX4_weighed 7 (some .int), Cond.fieldLink RX4 7 "CapitalReckonerModel" "weight" "[I", Cond.fieldLink RX4 20 "CapitalReckonerModel" "kind" "[I", Cond.fieldLink RX4 38 "CapitalReckonerModel" "better" "[I", Cond.fieldLink RX4 41 "CapitalReckonerModel" "sure" "[I", Cond.methodLink RX4 113 yX4_bared, Cond.instanceMethod yX4_bared, Cond.selects RX4 yX4_bared yX4_bared, Cond.code yX4_bared cX4_bared 5 (some .int), Cond.methodLink RX4 103 yX4_amounts, Cond.instanceMethod yX4_amounts, Cond.selects RX4 yX4_amounts yX4_amounts, Cond.code yX4_amounts cX4_amounts 2 (some .int), Cond.fieldLink RX4 26 "CapitalReckonerModel" "drawn" "[I", Cond.fieldLink RX4 29 "CapitalReckonerModel" "promised" "[I", Cond.methodLink RX4 99 yX4_percent, Cond.static yX4_percent, Cond.code yX4_percent cX4_percent 2 (some .int), Cond.constantLong RX4 81 (100), Cond.methodLink RX4 110 yX4_valued, Cond.instanceMethod yX4_valued, Cond.selects RX4 yX4_valued yX4_valued, Cond.code yX4_valued cX4_valued 4 (some .int), Cond.fieldLink RX4 44 "CapitalReckonerModel" "size" "[I"]
def wsX4_partyBare_r3 : List Cond := [Cond.fieldLink RX4 47 "CapitalReckonerModel" "cut" "[I", Cond.fieldLink RX4 50 "CapitalReckonerModel" "coin" "[I", Cond.fieldLink RX4 32 "CapitalReckonerModel" "currency" "[I", Cond.fieldLink RX4 53 "CapitalReckonerModel" "left" "[I", Cond.fieldLink RX4 35 "CapitalReckonerModel" "days" "[I", Cond.methodLink RX4 126 yX4_leastWhole, Cond.instanceMethod yX4_leastWhole, Cond.selects RX4 yX4_leastWhole yX4_leastWhole, Cond.code yX4_leastWhole cX4_leastWhole 7 (some .int), Cond.fieldLink RX4 65 "CapitalReckonerModel" "least" "[I", Cond.constant RX4 87 (1000000000), Cond.methodLink RX4 119 yX4_fits, Cond.instanceMethod yX4_fits, Cond.selects RX4 yX4_fits yX4_fits, Cond.code yX4_fits cX4_fits 5 (some .boolean), Cond.methodLink RX4 142 yX4_baredOf, Cond.instanceMethod yX4_baredOf, Cond.selects RX4 yX4_baredOf yX4_baredOf, Cond.code yX4_baredOf cX4_baredOf 4 (some .int), Cond.fieldLink RX4 23 "CapitalReckonerModel" "party" "[I", Cond.methodLink RX4 133 yX4_setOf, Cond.instanceMethod yX4_setOf, Cond.selects RX4 yX4_setOf yX4_setOf, Cond.code yX4_setOf cX4_setOf 4 (some .int)]
def wsX4_partyBare : List Cond := .code yX4_partyBare cX4_partyBare 2 (some .int) :: ((wsX4_partyBare_r1 ++ (wsX4_partyBare_r2 ++ wsX4_partyBare_r3)) ++ wsX40)
def wsX4_tooLarge_r1 : List Cond := [Cond.fieldLink RX4 68 "CapitalReckonerModel" "thrown" "I", Cond.constantLong RX4 145 (4), Cond.fieldLink RX4 88 "CapitalReckonerModel" "capital" "I", Cond.methodLink RX4 130 yX4_bests, Cond.instanceMethod yX4_bests, Cond.selects RX4 yX4_bests yX4_bests, Cond.initialized RX4, Cond.code yX4_bests cX4_bests 6 (some .int), Cond.fieldLink RX4 78 "CapitalReckonerModel" "pieces" "I", Cond.fieldLink RX4 62 "CapitalReckonerModel" "may" "[I", Cond.methodLink RX4 123 yX4_lays, Cond.instanceMethod yX4_lays, Cond.selects RX4 yX4_lays yX4_lays, Cond.code yX4_lays cX4_lays 2 none, Cond.fieldLink RX4 75 "CapitalReckonerModel" "exposures" "I", Cond.fieldLink RX4 59 "CapitalReckonerModel" "table" "[I", Cond.fieldLink RX4 56 "CapitalReckonerModel" "uses" "[I", Cond.methodLink RX4 116 yX4_weighed, Cond.instanceMethod yX4_weighed, Cond.selects RX4 yX4_weighed yX4_weighed, Cond.code yX4_weighed cX4_weighed 7 (some .int), Cond.fieldLink RX4 7 "CapitalReckonerModel" "weight" "[I", Cond.fieldLink RX4 20 "CapitalReckonerModel" "kind" "[I", Cond.fieldLink RX4 38 "CapitalReckonerModel" "better" "[I"]
def wsX4_tooLarge_r2 : List Cond := [Cond.fieldLink RX4 41 "CapitalReckonerModel" "sure" "[I", Cond.methodLink RX4 113 yX4_bared, Cond.instanceMethod yX4_bared, Cond.selects RX4 yX4_bared yX4_bared, Cond.code yX4_bared cX4_bared 5 (some .int), Cond.methodLink RX4 103 yX4_amounts, Cond.instanceMethod yX4_amounts, Cond.selects RX4 yX4_amounts yX4_amounts, Cond.code yX4_amounts cX4_amounts 2 (some .int), Cond.fieldLink RX4 26 "CapitalReckonerModel" "drawn" "[I", Cond.fieldLink RX4 29 "CapitalReckonerModel" "promised" "[I", Cond.methodLink RX4 99 yX4_percent, Cond.static yX4_percent, Cond.code yX4_percent cX4_percent 2 (some .int), Cond.constantLong RX4 81 (100), Cond.methodLink RX4 110 yX4_valued, Cond.instanceMethod yX4_valued, Cond.selects RX4 yX4_valued yX4_valued, Cond.code yX4_valued cX4_valued 4 (some .int), Cond.fieldLink RX4 44 "CapitalReckonerModel" "size" "[I", Cond.fieldLink RX4 47 "CapitalReckonerModel" "cut" "[I", Cond.fieldLink RX4 50 "CapitalReckonerModel" "coin" "[I", Cond.fieldLink RX4 32 "CapitalReckonerModel" "currency" "[I", Cond.fieldLink RX4 53 "CapitalReckonerModel" "left" "[I"]
def wsX4_tooLarge_r3 : List Cond := [Cond.fieldLink RX4 35 "CapitalReckonerModel" "days" "[I", Cond.methodLink RX4 126 yX4_leastWhole, Cond.instanceMethod yX4_leastWhole, Cond.selects RX4 yX4_leastWhole yX4_leastWhole, Cond.code yX4_leastWhole cX4_leastWhole 7 (some .int), Cond.fieldLink RX4 65 "CapitalReckonerModel" "least" "[I", Cond.constant RX4 87 (1000000000), Cond.methodLink RX4 119 yX4_fits, Cond.instanceMethod yX4_fits, Cond.selects RX4 yX4_fits yX4_fits, Cond.code yX4_fits cX4_fits 5 (some .boolean), Cond.methodLink RX4 142 yX4_baredOf, Cond.instanceMethod yX4_baredOf, Cond.selects RX4 yX4_baredOf yX4_baredOf, Cond.code yX4_baredOf cX4_baredOf 4 (some .int), Cond.fieldLink RX4 23 "CapitalReckonerModel" "party" "[I", Cond.methodLink RX4 133 yX4_setOf, Cond.instanceMethod yX4_setOf, Cond.selects RX4 yX4_setOf yX4_setOf, Cond.code yX4_setOf cX4_setOf 4 (some .int)]
def wsX4_tooLarge : List Cond := .code yX4_tooLarge cX4_tooLarge 3 (some .int) :: ((wsX4_tooLarge_r1 ++ (wsX4_tooLarge_r2 ++ wsX4_tooLarge_r3)) ++ wsX40)
def wsJ9_max_7cf53 : List Cond := .code yJ9_max_7cf53 cJ9_max_7cf53 2 (some .int) :: ([])
def wsJ9_min_7cf53 : List Cond := .code yJ9_min_7cf53 cJ9_min_7cf53 2 (some .int) :: ([])
def wsJ9_min_f86c9 : List Cond := .code yJ9_min_f86c9 cJ9_min_f86c9 4 (some .long) :: ([])
def wsL_setWeights_r1 : List Cond := [Cond.classLink RL 13 "java/lang/IndexOutOfBoundsException", Cond.classLink RL 15 "java/lang/IllegalArgumentException", Cond.methodLink RL 7 yX3_setWeights, Cond.instanceMethod yX3_setWeights, Cond.selects RX3 yX3_setWeights yX3_setWeights, Cond.initialized RX3, Cond.code yX3_setWeights cX3_setWeights 5 (some .int), Cond.classLink RX3 52 "java/lang/IndexOutOfBoundsException", Cond.initialized "java/lang/IndexOutOfBoundsException", Cond.classLink RX3 63 "java/lang/IllegalArgumentException", Cond.initialized "java/lang/IllegalArgumentException", Cond.fieldLink RX3 7 "CapitalReckoner" "weights" "[I", Cond.fieldLink RX3 13 "CapitalReckoner" "plainWeights" "[I", Cond.methodLink RX3 48 yX3_isClass, Cond.static yX3_isClass, Cond.code yX3_isClass cX3_isClass 1 (some .boolean), Cond.methodLink RX3 59 yX3_isWithin, Cond.static yX3_isWithin, Cond.code yX3_isWithin cX3_isWithin 3 (some .boolean), Cond.methodLink RX3 68 yX3_at, Cond.static yX3_at, Cond.code yX3_at cX3_at 2 (some .int), Cond.methodLink RX3 72 yX3_put, Cond.static yX3_put]
def wsL_setWeights_r2 : List Cond := [Cond.code yX3_put cX3_put 3 none]
def wsL_setWeights : List Cond := .codeWith yL_setWeights cL_setWeights 6 (some .int) [(0, 12, 15, 13), (0, 12, 19, 15)] :: ((wsL_setWeights_r1 ++ wsL_setWeights_r2) ++ wsX30 ++ (vx_atS RX3 56 "java/lang/IndexOutOfBoundsException" ["java/lang/RuntimeException", "java/lang/Exception"]).filter goodWord ++ (vx_atS RX3 67 "java/lang/IllegalArgumentException" ["java/lang/RuntimeException", "java/lang/Exception"]).filter goodWord)
def wsL_setFloor : List Cond := .codeWith yL_setFloor cL_setFloor 4 (some .int) [(0, 9, 12, 15)] :: ([.classLink RL 15 "java/lang/IllegalArgumentException", .methodLink RL 17 yX3_setFloor, .instanceMethod yX3_setFloor, .selects RX3 yX3_setFloor yX3_setFloor, .initialized RX3, .code yX3_setFloor cX3_setFloor 3 (some .int), .classLink RX3 63 "java/lang/IllegalArgumentException", .initialized "java/lang/IllegalArgumentException", .fieldLink RX3 42 "CapitalReckoner" "floor" "I", .methodLink RX3 59 yX3_isWithin, .static yX3_isWithin, .code yX3_isWithin cX3_isWithin 3 (some .boolean)] ++ wsX30 ++ (vx_atS RX3 67 "java/lang/IllegalArgumentException" ["java/lang/RuntimeException", "java/lang/Exception"]).filter goodWord)
def wsL_setCapital : List Cond := .codeWith yL_setCapital cL_setCapital 4 (some .int) [(0, 9, 12, 15)] :: ([.classLink RL 15 "java/lang/IllegalArgumentException", .methodLink RL 21 yX3_setCapital, .instanceMethod yX3_setCapital, .selects RX3 yX3_setCapital yX3_setCapital, .initialized RX3, .code yX3_setCapital cX3_setCapital 3 (some .int), .classLink RX3 63 "java/lang/IllegalArgumentException", .initialized "java/lang/IllegalArgumentException", .constant RX3 78 (1000000000), .fieldLink RX3 45 "CapitalReckoner" "capital" "I", .methodLink RX3 59 yX3_isWithin, .static yX3_isWithin, .code yX3_isWithin cX3_isWithin 3 (some .boolean)] ++ wsX30 ++ (vx_atS RX3 67 "java/lang/IllegalArgumentException" ["java/lang/RuntimeException", "java/lang/Exception"]).filter goodWord)
def wsL_addExposure_r1 : List Cond := [Cond.classLink RL 13 "java/lang/IndexOutOfBoundsException", Cond.classLink RL 15 "java/lang/IllegalArgumentException", Cond.classLink RL 28 "java/lang/IllegalStateException", Cond.methodLink RL 24 yX3_addExposure, Cond.instanceMethod yX3_addExposure, Cond.selects RX3 yX3_addExposure yX3_addExposure, Cond.initialized RX3, Cond.code yX3_addExposure cX3_addExposure 8 (some .int), Cond.classLink RX3 52 "java/lang/IndexOutOfBoundsException", Cond.initialized "java/lang/IndexOutOfBoundsException", Cond.classLink RX3 63 "java/lang/IllegalArgumentException", Cond.initialized "java/lang/IllegalArgumentException", Cond.classLink RX3 97 "java/lang/IllegalStateException", Cond.initialized "java/lang/IllegalStateException", Cond.fieldLink RX3 35 "CapitalReckoner" "exposureCount" "I", Cond.fieldLink RX3 18 "CapitalReckoner" "book" "[LCapitalReckoner$Exposure;", Cond.classLink RX3 16 RX0, Cond.instantiable RX0 8, Cond.initialized RX0, Cond.methodLink RX3 48 yX3_isClass, Cond.static yX3_isClass, Cond.code yX3_isClass cX3_isClass 1 (some .boolean), Cond.methodLink RX3 59 yX3_isWithin, Cond.static yX3_isWithin]
def wsL_addExposure_r2 : List Cond := [Cond.code yX3_isWithin cX3_isWithin 3 (some .boolean), Cond.methodLink RX3 81 yX3_isParty, Cond.static yX3_isParty, Cond.code yX3_isParty cX3_isParty 1 (some .boolean), Cond.methodLink RX3 86 yX3_isPart, Cond.static yX3_isPart, Cond.code yX3_isPart cX3_isPart 1 (some .boolean), Cond.constant RX3 112 (10000000), Cond.methodLink RX3 89 yX3_isCurrency, Cond.static yX3_isCurrency, Cond.code yX3_isCurrency cX3_isCurrency 1 (some .boolean), Cond.methodLink RX3 92 yX3_isDays, Cond.static yX3_isDays, Cond.code yX3_isDays cX3_isDays 1 (some .boolean), Cond.instanceMethod yX0_init, Cond.code yX0_init cX0_init 7 none, Cond.methodLink RX0 3 objectInit, Cond.instanceMethod objectInit, Cond.code objectInit ⟨#[0xb1]⟩ 1 none, Cond.fieldLink RX0 9 "CapitalReckoner$Exposure" "kind" "I", Cond.fieldLink RX0 15 "CapitalReckoner$Exposure" "party" "I", Cond.fieldLink RX0 18 "CapitalReckoner$Exposure" "drawn" "I", Cond.fieldLink RX0 21 "CapitalReckoner$Exposure" "promised" "I", Cond.fieldLink RX0 24 "CapitalReckoner$Exposure" "currency" "I"]
def wsL_addExposure_r3 : List Cond := [Cond.fieldLink RX0 27 "CapitalReckoner$Exposure" "days" "I", Cond.fieldLink RX0 30 "CapitalReckoner$Exposure" "guaranteeKind" "I", Cond.fieldLink RX0 33 "CapitalReckoner$Exposure" "guaranteeSum" "I"]
def wsL_addExposure : List Cond := .codeWith yL_addExposure cL_addExposure 9 (some .int) [(0, 18, 21, 13), (0, 18, 25, 15), (0, 18, 29, 28)] :: ((wsL_addExposure_r1 ++ (wsL_addExposure_r2 ++ wsL_addExposure_r3)) ++ wsX30 ++ wsX00 ++ (vx_atS RX3 56 "java/lang/IndexOutOfBoundsException" ["java/lang/RuntimeException", "java/lang/Exception"]).filter goodWord ++ (vx_atS RX3 67 "java/lang/IllegalArgumentException" ["java/lang/RuntimeException", "java/lang/Exception"]).filter goodWord ++ (vx_atS RX3 101 "java/lang/IllegalStateException" ["java/lang/RuntimeException", "java/lang/Exception"]).filter goodWord)
def wsL_draw_r1 : List Cond := [Cond.classLink RL 13 "java/lang/IndexOutOfBoundsException", Cond.classLink RL 15 "java/lang/IllegalArgumentException", Cond.classLink RL 28 "java/lang/IllegalStateException", Cond.methodLink RL 30 yX3_draw, Cond.instanceMethod yX3_draw, Cond.selects RX3 yX3_draw yX3_draw, Cond.initialized RX3, Cond.code yX3_draw cX3_draw 6 (some .int), Cond.classLink RX3 52 "java/lang/IndexOutOfBoundsException", Cond.initialized "java/lang/IndexOutOfBoundsException", Cond.classLink RX3 63 "java/lang/IllegalArgumentException", Cond.initialized "java/lang/IllegalArgumentException", Cond.classLink RX3 97 "java/lang/IllegalStateException", Cond.initialized "java/lang/IllegalStateException", Cond.constant RX3 111 (-10000000), Cond.constant RX3 112 (10000000), Cond.methodLink RX3 105 yX3_exposureAt, Cond.instanceMethod yX3_exposureAt, Cond.selects RX3 yX3_exposureAt yX3_exposureAt, Cond.code yX3_exposureAt cX3_exposureAt 2 (some (.object "CapitalReckoner$Exposure")), Cond.fieldLink RX3 18 "CapitalReckoner" "book" "[LCapitalReckoner$Exposure;", Cond.methodLink RX3 59 yX3_isWithin, Cond.static yX3_isWithin, Cond.code yX3_isWithin cX3_isWithin 3 (some .boolean)]
def wsL_draw_r2 : List Cond := [Cond.methodLink RX3 86 yX3_isPart, Cond.static yX3_isPart, Cond.code yX3_isPart cX3_isPart 1 (some .boolean)]
def wsL_draw : List Cond := .codeWith yL_draw cL_draw 5 (some .int) [(0, 10, 13, 13), (0, 10, 17, 15), (0, 10, 21, 28)] :: ((wsL_draw_r1 ++ wsL_draw_r2) ++ wsX00 ++ wsX30 ++ (vx_atS RX3 56 "java/lang/IndexOutOfBoundsException" ["java/lang/RuntimeException", "java/lang/Exception"]).filter goodWord ++ (vx_atS RX3 67 "java/lang/IllegalArgumentException" ["java/lang/RuntimeException", "java/lang/Exception"]).filter goodWord ++ (vx_atS RX3 101 "java/lang/IllegalStateException" ["java/lang/RuntimeException", "java/lang/Exception"]).filter goodWord)
def wsL_setClass : List Cond := .codeWith yL_setClass cL_setClass 5 (some .int) [(0, 10, 13, 13)] :: ([.classLink RL 13 "java/lang/IndexOutOfBoundsException", .methodLink RL 34 yX3_setClass, .instanceMethod yX3_setClass, .selects RX3 yX3_setClass yX3_setClass, .initialized RX3, .code yX3_setClass cX3_setClass 5 (some .int), .classLink RX3 52 "java/lang/IndexOutOfBoundsException", .initialized "java/lang/IndexOutOfBoundsException", .methodLink RX3 105 yX3_exposureAt, .instanceMethod yX3_exposureAt, .selects RX3 yX3_exposureAt yX3_exposureAt, .code yX3_exposureAt cX3_exposureAt 2 (some (.object "CapitalReckoner$Exposure")), .fieldLink RX3 18 "CapitalReckoner" "book" "[LCapitalReckoner$Exposure;", .methodLink RX3 48 yX3_isClass, .static yX3_isClass, .code yX3_isClass cX3_isClass 1 (some .boolean), .methodLink RX3 59 yX3_isWithin, .static yX3_isWithin, .code yX3_isWithin cX3_isWithin 3 (some .boolean)] ++ wsX00 ++ wsX30 ++ (vx_atS RX3 56 "java/lang/IndexOutOfBoundsException" ["java/lang/RuntimeException", "java/lang/Exception"]).filter goodWord)
def wsL_guarantee_r1 : List Cond := [Cond.classLink RL 13 "java/lang/IndexOutOfBoundsException", Cond.classLink RL 15 "java/lang/IllegalArgumentException", Cond.methodLink RL 37 yX3_guarantee, Cond.instanceMethod yX3_guarantee, Cond.selects RX3 yX3_guarantee yX3_guarantee, Cond.initialized RX3, Cond.code yX3_guarantee cX3_guarantee 6 (some .int), Cond.classLink RX3 52 "java/lang/IndexOutOfBoundsException", Cond.initialized "java/lang/IndexOutOfBoundsException", Cond.classLink RX3 63 "java/lang/IllegalArgumentException", Cond.initialized "java/lang/IllegalArgumentException", Cond.methodLink RX3 105 yX3_exposureAt, Cond.instanceMethod yX3_exposureAt, Cond.selects RX3 yX3_exposureAt yX3_exposureAt, Cond.code yX3_exposureAt cX3_exposureAt 2 (some (.object "CapitalReckoner$Exposure")), Cond.fieldLink RX3 18 "CapitalReckoner" "book" "[LCapitalReckoner$Exposure;", Cond.methodLink RX3 48 yX3_isClass, Cond.static yX3_isClass, Cond.code yX3_isClass cX3_isClass 1 (some .boolean), Cond.methodLink RX3 59 yX3_isWithin, Cond.static yX3_isWithin, Cond.code yX3_isWithin cX3_isWithin 3 (some .boolean), Cond.methodLink RX3 86 yX3_isPart, Cond.static yX3_isPart]
def wsL_guarantee_r2 : List Cond := [Cond.code yX3_isPart cX3_isPart 1 (some .boolean), Cond.constant RX3 112 (10000000)]
def wsL_guarantee : List Cond := .codeWith yL_guarantee cL_guarantee 6 (some .int) [(0, 12, 15, 13), (0, 12, 19, 15)] :: ((wsL_guarantee_r1 ++ wsL_guarantee_r2) ++ wsX00 ++ wsX30 ++ (vx_atS RX3 56 "java/lang/IndexOutOfBoundsException" ["java/lang/RuntimeException", "java/lang/Exception"]).filter goodWord ++ (vx_atS RX3 67 "java/lang/IllegalArgumentException" ["java/lang/RuntimeException", "java/lang/Exception"]).filter goodWord)
def wsL_amount : List Cond := .codeWith yL_amount cL_amount 4 (some .int) [(0, 9, 12, 13)] :: ([.classLink RL 13 "java/lang/IndexOutOfBoundsException", .methodLink RL 40 yX3_amount, .instanceMethod yX3_amount, .selects RX3 yX3_amount yX3_amount, .initialized RX3, .code yX3_amount cX3_amount 3 (some .int), .classLink RX3 52 "java/lang/IndexOutOfBoundsException", .initialized "java/lang/IndexOutOfBoundsException", .methodLink RX3 105 yX3_exposureAt, .instanceMethod yX3_exposureAt, .selects RX3 yX3_exposureAt yX3_exposureAt, .code yX3_exposureAt cX3_exposureAt 2 (some (.object "CapitalReckoner$Exposure")), .fieldLink RX3 18 "CapitalReckoner" "book" "[LCapitalReckoner$Exposure;", .instanceMethod yX0_amountNow, .initialized RX0, .selects RX0 yX0_amountNow yX0_amountNow, .code yX0_amountNow cX0_amountNow 1 (some .int), .fieldLink RX0 18 "CapitalReckoner$Exposure" "drawn" "I", .fieldLink RX0 21 "CapitalReckoner$Exposure" "promised" "I", .static yX3_percentOf, .code yX3_percentOf cX3_percentOf 2 (some .int), .constantLong RX3 218 (100)] ++ wsX30 ++ wsX00 ++ (vx_atS RX3 56 "java/lang/IndexOutOfBoundsException" ["java/lang/RuntimeException", "java/lang/Exception"]).filter goodWord)
def wsL_addPiece_r1 : List Cond := [Cond.classLink RL 15 "java/lang/IllegalArgumentException", Cond.classLink RL 28 "java/lang/IllegalStateException", Cond.methodLink RL 43 yX3_addPiece, Cond.instanceMethod yX3_addPiece, Cond.selects RX3 yX3_addPiece yX3_addPiece, Cond.initialized RX3, Cond.code yX3_addPiece cX3_addPiece 7 (some .int), Cond.classLink RX3 63 "java/lang/IllegalArgumentException", Cond.initialized "java/lang/IllegalArgumentException", Cond.classLink RX3 97 "java/lang/IllegalStateException", Cond.initialized "java/lang/IllegalStateException", Cond.fieldLink RX3 39 "CapitalReckoner" "pieceCount" "I", Cond.fieldLink RX3 24 "CapitalReckoner" "collateral" "[LCapitalReckoner$Piece;", Cond.classLink RX3 22 RX1, Cond.instantiable RX1 5, Cond.initialized RX1, Cond.methodLink RX3 136 yX3_isPieceSum, Cond.static yX3_isPieceSum, Cond.code yX3_isPieceSum cX3_isPieceSum 1 (some .boolean), Cond.constant RX3 112 (10000000), Cond.methodLink RX3 59 yX3_isWithin, Cond.static yX3_isWithin, Cond.code yX3_isWithin cX3_isWithin 3 (some .boolean), Cond.methodLink RX3 89 yX3_isCurrency]
def wsL_addPiece_r2 : List Cond := [Cond.static yX3_isCurrency, Cond.code yX3_isCurrency cX3_isCurrency 1 (some .boolean), Cond.methodLink RX3 92 yX3_isDays, Cond.static yX3_isDays, Cond.code yX3_isDays cX3_isDays 1 (some .boolean), Cond.methodLink RX3 139 yX3_isUses, Cond.static yX3_isUses, Cond.code yX3_isUses cX3_isUses 1 (some .boolean), Cond.instanceMethod yX1_init, Cond.code yX1_init cX1_init 6 none, Cond.methodLink RX1 3 objectInit, Cond.instanceMethod objectInit, Cond.code objectInit ⟨#[0xb1]⟩ 1 none, Cond.fieldLink RX1 9 "CapitalReckoner$Piece" "amount" "I", Cond.fieldLink RX1 15 "CapitalReckoner$Piece" "haircut" "I", Cond.fieldLink RX1 18 "CapitalReckoner$Piece" "currency" "I", Cond.fieldLink RX1 21 "CapitalReckoner$Piece" "days" "I", Cond.fieldLink RX1 24 "CapitalReckoner$Piece" "uses" "I"]
def wsL_addPiece : List Cond := .codeWith yL_addPiece cL_addPiece 8 (some .int) [(0, 16, 19, 15), (0, 16, 23, 28)] :: ((wsL_addPiece_r1 ++ wsL_addPiece_r2) ++ wsX30 ++ wsX10 ++ (vx_atS RX3 67 "java/lang/IllegalArgumentException" ["java/lang/RuntimeException", "java/lang/Exception"]).filter goodWord ++ (vx_atS RX3 101 "java/lang/IllegalStateException" ["java/lang/RuntimeException", "java/lang/Exception"]).filter goodWord)
def wsL_setPiece_r1 : List Cond := [Cond.classLink RL 13 "java/lang/IndexOutOfBoundsException", Cond.classLink RL 15 "java/lang/IllegalArgumentException", Cond.methodLink RL 47 yX3_setPiece, Cond.instanceMethod yX3_setPiece, Cond.selects RX3 yX3_setPiece yX3_setPiece, Cond.initialized RX3, Cond.code yX3_setPiece cX3_setPiece 6 (some .int), Cond.classLink RX3 52 "java/lang/IndexOutOfBoundsException", Cond.initialized "java/lang/IndexOutOfBoundsException", Cond.classLink RX3 63 "java/lang/IllegalArgumentException", Cond.initialized "java/lang/IllegalArgumentException", Cond.methodLink RX3 149 yX3_pieceAt, Cond.instanceMethod yX3_pieceAt, Cond.selects RX3 yX3_pieceAt yX3_pieceAt, Cond.code yX3_pieceAt cX3_pieceAt 2 (some (.object "CapitalReckoner$Piece")), Cond.fieldLink RX3 24 "CapitalReckoner" "collateral" "[LCapitalReckoner$Piece;", Cond.methodLink RX3 136 yX3_isPieceSum, Cond.static yX3_isPieceSum, Cond.code yX3_isPieceSum cX3_isPieceSum 1 (some .boolean), Cond.constant RX3 112 (10000000), Cond.methodLink RX3 59 yX3_isWithin, Cond.static yX3_isWithin, Cond.code yX3_isWithin cX3_isWithin 3 (some .boolean), Cond.methodLink RX3 139 yX3_isUses]
def wsL_setPiece_r2 : List Cond := [Cond.static yX3_isUses, Cond.code yX3_isUses cX3_isUses 1 (some .boolean)]
def wsL_setPiece : List Cond := .codeWith yL_setPiece cL_setPiece 6 (some .int) [(0, 12, 15, 13), (0, 12, 19, 15)] :: ((wsL_setPiece_r1 ++ wsL_setPiece_r2) ++ wsX10 ++ wsX30 ++ (vx_atS RX3 56 "java/lang/IndexOutOfBoundsException" ["java/lang/RuntimeException", "java/lang/Exception"]).filter goodWord ++ (vx_atS RX3 67 "java/lang/IllegalArgumentException" ["java/lang/RuntimeException", "java/lang/Exception"]).filter goodWord)
def wsL_value_r1 : List Cond := [Cond.classLink RL 13 "java/lang/IndexOutOfBoundsException", Cond.methodLink RL 50 yX3_value, Cond.instanceMethod yX3_value, Cond.selects RX3 yX3_value yX3_value, Cond.initialized RX3, Cond.code yX3_value cX3_value 5 (some .int), Cond.classLink RX3 52 "java/lang/IndexOutOfBoundsException", Cond.initialized "java/lang/IndexOutOfBoundsException", Cond.methodLink RX3 149 yX3_pieceAt, Cond.instanceMethod yX3_pieceAt, Cond.selects RX3 yX3_pieceAt yX3_pieceAt, Cond.code yX3_pieceAt cX3_pieceAt 2 (some (.object "CapitalReckoner$Piece")), Cond.fieldLink RX3 24 "CapitalReckoner" "collateral" "[LCapitalReckoner$Piece;", Cond.methodLink RX3 105 yX3_exposureAt, Cond.instanceMethod yX3_exposureAt, Cond.selects RX3 yX3_exposureAt yX3_exposureAt, Cond.code yX3_exposureAt cX3_exposureAt 2 (some (.object "CapitalReckoner$Exposure")), Cond.fieldLink RX3 18 "CapitalReckoner" "book" "[LCapitalReckoner$Exposure;", Cond.instanceMethod yX1_valueFor, Cond.initialized RX1, Cond.selects RX1 yX1_valueFor yX1_valueFor, Cond.code yX1_valueFor cX1_valueFor 3 (some .int), Cond.fieldLink RX1 9 "CapitalReckoner$Piece" "amount" "I", Cond.fieldLink RX1 15 "CapitalReckoner$Piece" "haircut" "I"]
def wsL_value_r2 : List Cond := [Cond.fieldLink RX1 18 "CapitalReckoner$Piece" "currency" "I", Cond.fieldLink RX1 21 "CapitalReckoner$Piece" "days" "I", Cond.static yX3_percentOf, Cond.code yX3_percentOf cX3_percentOf 2 (some .int), Cond.constantLong RX3 218 (100)]
def wsL_value : List Cond := .codeWith yL_value cL_value 5 (some .int) [(0, 10, 13, 13)] :: ((wsL_value_r1 ++ wsL_value_r2) ++ wsX30 ++ wsX10 ++ wsX00 ++ (vx_atS RX3 56 "java/lang/IndexOutOfBoundsException" ["java/lang/RuntimeException", "java/lang/Exception"]).filter goodWord)
def wsL_givenTo_r1 : List Cond := [Cond.classLink RL 13 "java/lang/IndexOutOfBoundsException", Cond.methodLink RL 53 yX3_givenTo, Cond.instanceMethod yX3_givenTo, Cond.selects RX3 yX3_givenTo yX3_givenTo, Cond.initialized RX3, Cond.code yX3_givenTo cX3_givenTo 2 (some .int), Cond.classLink RX3 52 "java/lang/IndexOutOfBoundsException", Cond.initialized "java/lang/IndexOutOfBoundsException", Cond.fieldLink RX3 31 "CapitalReckoner" "search" "LCapitalReckoner$Search;", Cond.methodLink RX3 149 yX3_pieceAt, Cond.instanceMethod yX3_pieceAt, Cond.selects RX3 yX3_pieceAt yX3_pieceAt, Cond.code yX3_pieceAt cX3_pieceAt 2 (some (.object "CapitalReckoner$Piece")), Cond.fieldLink RX3 24 "CapitalReckoner" "collateral" "[LCapitalReckoner$Piece;", Cond.methodLink RX3 169 yX3_findBest, Cond.instanceMethod yX3_findBest, Cond.selects RX3 yX3_findBest yX3_findBest, Cond.code yX3_findBest cX3_findBest 1 none, Cond.methodLink RX3 189 yX3_fillSearch, Cond.instanceMethod yX3_fillSearch, Cond.selects RX3 yX3_fillSearch yX3_fillSearch, Cond.code yX3_fillSearch cX3_fillSearch 4 none, Cond.fieldLink RX3 35 "CapitalReckoner" "exposureCount" "I", Cond.fieldLink RX3 39 "CapitalReckoner" "pieceCount" "I"]
def wsL_givenTo_r2 : List Cond := [Cond.instanceMethod yX2_begin, Cond.initialized RX2, Cond.selects RX2 yX2_begin yX2_begin, Cond.code yX2_begin cX2_begin 3 none, Cond.methodLink RX2 28 Lib.Math.min.name, Cond.static Lib.Math.min.name, Cond.initialized "java/lang/Math", Cond.code Lib.Math.min.name Lib.Math.min.code 2 (some .int), Cond.fieldLink RX2 34 "CapitalReckoner$Search" "takers" "I", Cond.fieldLink RX2 38 "CapitalReckoner$Search" "gifts" "I", Cond.methodLink RX3 105 yX3_exposureAt, Cond.instanceMethod yX3_exposureAt, Cond.selects RX3 yX3_exposureAt yX3_exposureAt, Cond.code yX3_exposureAt cX3_exposureAt 2 (some (.object "CapitalReckoner$Exposure")), Cond.fieldLink RX3 18 "CapitalReckoner" "book" "[LCapitalReckoner$Exposure;", Cond.methodLink RX3 237 yX3_usableFor, Cond.instanceMethod yX3_usableFor, Cond.selects RX3 yX3_usableFor yX3_usableFor, Cond.code yX3_usableFor cX3_usableFor 5 (some .int), Cond.methodLink RX3 220 yX3_has, Cond.static yX3_has, Cond.code yX3_has cX3_has 2 (some .boolean), Cond.instanceMethod yX2_setUsable, Cond.selects RX2 yX2_setUsable yX2_setUsable]
def wsL_givenTo_r3 : List Cond := [Cond.code yX2_setUsable cX2_setUsable 3 none, Cond.fieldLink RX2 11 "CapitalReckoner$Search" "usable" "[I", Cond.static yX3_put, Cond.code yX3_put cX3_put 3 none, Cond.methodLink RX3 179 yX3_bareWith, Cond.instanceMethod yX3_bareWith, Cond.selects RX3 yX3_bareWith yX3_bareWith, Cond.code yX3_bareWith cX3_bareWith 6 (some .int), Cond.methodLink RX3 208 Lib.Math.max.name, Cond.static Lib.Math.max.name, Cond.code Lib.Math.max.name Lib.Math.max.code 2 (some .int), Cond.instanceMethod yX0_amountNow, Cond.initialized RX0, Cond.selects RX0 yX0_amountNow yX0_amountNow, Cond.code yX0_amountNow cX0_amountNow 1 (some .int), Cond.fieldLink RX0 18 "CapitalReckoner$Exposure" "drawn" "I", Cond.fieldLink RX0 21 "CapitalReckoner$Exposure" "promised" "I", Cond.static yX3_percentOf, Cond.code yX3_percentOf cX3_percentOf 2 (some .int), Cond.constantLong RX3 218 (100), Cond.instanceMethod yX1_valueFor, Cond.initialized RX1, Cond.selects RX1 yX1_valueFor yX1_valueFor, Cond.code yX1_valueFor cX1_valueFor 3 (some .int)]
def wsL_givenTo_r4 : List Cond := [Cond.fieldLink RX1 9 "CapitalReckoner$Piece" "amount" "I", Cond.fieldLink RX1 15 "CapitalReckoner$Piece" "haircut" "I", Cond.fieldLink RX1 18 "CapitalReckoner$Piece" "currency" "I", Cond.fieldLink RX1 21 "CapitalReckoner$Piece" "days" "I", Cond.methodLink RX3 183 yX3_weightedOf, Cond.instanceMethod yX3_weightedOf, Cond.selects RX3 yX3_weightedOf yX3_weightedOf, Cond.code yX3_weightedOf cX3_weightedOf 6 (some .int), Cond.fieldLink RX3 7 "CapitalReckoner" "weights" "[I", Cond.methodLink RX3 224 Lib.Math.min.name, Cond.methodLink RX3 68 yX3_at, Cond.static yX3_at, Cond.code yX3_at cX3_at 2 (some .int), Cond.methodLink RX3 198 yX3_percentOf, Cond.instanceMethod yX2_setWeighted, Cond.selects RX2 yX2_setWeighted yX2_setWeighted, Cond.code yX2_setWeighted cX2_setWeighted 4 none, Cond.fieldLink RX2 15 "CapitalReckoner$Search" "weightedBySet" "[I", Cond.instanceMethod yX2_findLeast, Cond.selects RX2 yX2_findLeast yX2_findLeast, Cond.code yX2_findLeast cX2_findLeast 3 none, Cond.fieldLink RX2 25 "CapitalReckoner$Search" "least" "[J", Cond.methodLink RX2 57 yX2_digitsOf, Cond.static yX2_digitsOf]
def wsL_givenTo_r5 : List Cond := [Cond.code yX2_digitsOf cX2_digitsOf 5 (some .long), Cond.methodLink RX2 53 yX2_digitShift, Cond.static yX2_digitShift, Cond.code yX2_digitShift cX2_digitShift 1 (some .int), Cond.methodLink RX2 61 yX2_fillPrices, Cond.instanceMethod yX2_fillPrices, Cond.selects RX2 yX2_fillPrices yX2_fillPrices, Cond.code yX2_fillPrices cX2_fillPrices 3 none, Cond.fieldLink RX2 21 "CapitalReckoner$Search" "prices" "[J", Cond.methodLink RX2 68 yX2_weightedWith, Cond.instanceMethod yX2_weightedWith, Cond.selects RX2 yX2_weightedWith yX2_weightedWith, Cond.code yX2_weightedWith cX2_weightedWith 3 (some .int), Cond.methodLink RX2 65 yX2_leastOf, Cond.instanceMethod yX2_leastOf, Cond.selects RX2 yX2_leastOf yX2_leastOf, Cond.code yX2_leastOf cX2_leastOf 6 (some .long), Cond.methodLink RX2 78 Lib.MathLoose.min_long.x, Cond.static Lib.MathLoose.min_long.x, Cond.code Lib.MathLoose.min_long.x Lib.MathLoose.min_long.code 4 (some .long), Cond.methodLink RX2 71 yX2_priceOf, Cond.instanceMethod yX2_priceOf, Cond.selects RX2 yX2_priceOf yX2_priceOf, Cond.code yX2_priceOf cX2_priceOf 2 (some .long)]
def wsL_givenTo_r6 : List Cond := [Cond.methodLink RX2 75 yX2_leastKey, Cond.instanceMethod yX2_leastKey, Cond.selects RX2 yX2_leastKey yX2_leastKey, Cond.code yX2_leastKey cX2_leastKey 2 (some .long), Cond.instanceMethod yX2_takerOf, Cond.selects RX2 yX2_takerOf yX2_takerOf, Cond.code yX2_takerOf cX2_takerOf 3 (some .int), Cond.methodLink RX2 85 yX2_bestKey, Cond.instanceMethod yX2_bestKey, Cond.selects RX2 yX2_bestKey yX2_bestKey, Cond.code yX2_bestKey cX2_bestKey 1 (some .long), Cond.methodLink RX2 81 yX2_allGifts, Cond.instanceMethod yX2_allGifts, Cond.selects RX2 yX2_allGifts yX2_allGifts, Cond.code yX2_allGifts cX2_allGifts 1 (some .int)]
def wsL_givenTo : List Cond := .codeWith yL_givenTo cL_givenTo 4 (some .int) [(0, 9, 12, 13)] :: ((wsL_givenTo_r1 ++ (wsL_givenTo_r2 ++ (wsL_givenTo_r3 ++ (wsL_givenTo_r4 ++ (wsL_givenTo_r5 ++ wsL_givenTo_r6))))) ++ wsX30 ++ wsX20 ++ wsX10 ++ wsX00 ++ (vx_atS RX3 56 "java/lang/IndexOutOfBoundsException" ["java/lang/RuntimeException", "java/lang/Exception"]).filter goodWord)
def wsL_bare_r1 : List Cond := [Cond.classLink RL 13 "java/lang/IndexOutOfBoundsException", Cond.methodLink RL 56 yX3_bare, Cond.instanceMethod yX3_bare, Cond.selects RX3 yX3_bare yX3_bare, Cond.initialized RX3, Cond.code yX3_bare cX3_bare 3 (some .int), Cond.classLink RX3 52 "java/lang/IndexOutOfBoundsException", Cond.initialized "java/lang/IndexOutOfBoundsException", Cond.fieldLink RX3 31 "CapitalReckoner" "search" "LCapitalReckoner$Search;", Cond.methodLink RX3 105 yX3_exposureAt, Cond.instanceMethod yX3_exposureAt, Cond.selects RX3 yX3_exposureAt yX3_exposureAt, Cond.code yX3_exposureAt cX3_exposureAt 2 (some (.object "CapitalReckoner$Exposure")), Cond.fieldLink RX3 18 "CapitalReckoner" "book" "[LCapitalReckoner$Exposure;", Cond.methodLink RX3 169 yX3_findBest, Cond.instanceMethod yX3_findBest, Cond.selects RX3 yX3_findBest yX3_findBest, Cond.code yX3_findBest cX3_findBest 1 none, Cond.methodLink RX3 189 yX3_fillSearch, Cond.instanceMethod yX3_fillSearch, Cond.selects RX3 yX3_fillSearch yX3_fillSearch, Cond.code yX3_fillSearch cX3_fillSearch 4 none, Cond.fieldLink RX3 35 "CapitalReckoner" "exposureCount" "I", Cond.fieldLink RX3 39 "CapitalReckoner" "pieceCount" "I"]
def wsL_bare_r2 : List Cond := [Cond.instanceMethod yX2_begin, Cond.initialized RX2, Cond.selects RX2 yX2_begin yX2_begin, Cond.code yX2_begin cX2_begin 3 none, Cond.methodLink RX2 28 Lib.Math.min.name, Cond.static Lib.Math.min.name, Cond.initialized "java/lang/Math", Cond.code Lib.Math.min.name Lib.Math.min.code 2 (some .int), Cond.fieldLink RX2 34 "CapitalReckoner$Search" "takers" "I", Cond.fieldLink RX2 38 "CapitalReckoner$Search" "gifts" "I", Cond.methodLink RX3 237 yX3_usableFor, Cond.instanceMethod yX3_usableFor, Cond.selects RX3 yX3_usableFor yX3_usableFor, Cond.code yX3_usableFor cX3_usableFor 5 (some .int), Cond.methodLink RX3 149 yX3_pieceAt, Cond.instanceMethod yX3_pieceAt, Cond.selects RX3 yX3_pieceAt yX3_pieceAt, Cond.code yX3_pieceAt cX3_pieceAt 2 (some (.object "CapitalReckoner$Piece")), Cond.fieldLink RX3 24 "CapitalReckoner" "collateral" "[LCapitalReckoner$Piece;", Cond.methodLink RX3 220 yX3_has, Cond.static yX3_has, Cond.code yX3_has cX3_has 2 (some .boolean), Cond.instanceMethod yX2_setUsable, Cond.selects RX2 yX2_setUsable yX2_setUsable]
def wsL_bare_r3 : List Cond := [Cond.code yX2_setUsable cX2_setUsable 3 none, Cond.fieldLink RX2 11 "CapitalReckoner$Search" "usable" "[I", Cond.static yX3_put, Cond.code yX3_put cX3_put 3 none, Cond.methodLink RX3 179 yX3_bareWith, Cond.instanceMethod yX3_bareWith, Cond.selects RX3 yX3_bareWith yX3_bareWith, Cond.code yX3_bareWith cX3_bareWith 6 (some .int), Cond.methodLink RX3 208 Lib.Math.max.name, Cond.static Lib.Math.max.name, Cond.code Lib.Math.max.name Lib.Math.max.code 2 (some .int), Cond.instanceMethod yX0_amountNow, Cond.initialized RX0, Cond.selects RX0 yX0_amountNow yX0_amountNow, Cond.code yX0_amountNow cX0_amountNow 1 (some .int), Cond.fieldLink RX0 18 "CapitalReckoner$Exposure" "drawn" "I", Cond.fieldLink RX0 21 "CapitalReckoner$Exposure" "promised" "I", Cond.static yX3_percentOf, Cond.code yX3_percentOf cX3_percentOf 2 (some .int), Cond.constantLong RX3 218 (100), Cond.instanceMethod yX1_valueFor, Cond.initialized RX1, Cond.selects RX1 yX1_valueFor yX1_valueFor, Cond.code yX1_valueFor cX1_valueFor 3 (some .int)]
def wsL_bare_r4 : List Cond := [Cond.fieldLink RX1 9 "CapitalReckoner$Piece" "amount" "I", Cond.fieldLink RX1 15 "CapitalReckoner$Piece" "haircut" "I", Cond.fieldLink RX1 18 "CapitalReckoner$Piece" "currency" "I", Cond.fieldLink RX1 21 "CapitalReckoner$Piece" "days" "I", Cond.methodLink RX3 183 yX3_weightedOf, Cond.instanceMethod yX3_weightedOf, Cond.selects RX3 yX3_weightedOf yX3_weightedOf, Cond.code yX3_weightedOf cX3_weightedOf 6 (some .int), Cond.fieldLink RX3 7 "CapitalReckoner" "weights" "[I", Cond.methodLink RX3 224 Lib.Math.min.name, Cond.methodLink RX3 68 yX3_at, Cond.static yX3_at, Cond.code yX3_at cX3_at 2 (some .int), Cond.methodLink RX3 198 yX3_percentOf, Cond.instanceMethod yX2_setWeighted, Cond.selects RX2 yX2_setWeighted yX2_setWeighted, Cond.code yX2_setWeighted cX2_setWeighted 4 none, Cond.fieldLink RX2 15 "CapitalReckoner$Search" "weightedBySet" "[I", Cond.instanceMethod yX2_findLeast, Cond.selects RX2 yX2_findLeast yX2_findLeast, Cond.code yX2_findLeast cX2_findLeast 3 none, Cond.fieldLink RX2 25 "CapitalReckoner$Search" "least" "[J", Cond.methodLink RX2 57 yX2_digitsOf, Cond.static yX2_digitsOf]
def wsL_bare_r5 : List Cond := [Cond.code yX2_digitsOf cX2_digitsOf 5 (some .long), Cond.methodLink RX2 53 yX2_digitShift, Cond.static yX2_digitShift, Cond.code yX2_digitShift cX2_digitShift 1 (some .int), Cond.methodLink RX2 61 yX2_fillPrices, Cond.instanceMethod yX2_fillPrices, Cond.selects RX2 yX2_fillPrices yX2_fillPrices, Cond.code yX2_fillPrices cX2_fillPrices 3 none, Cond.fieldLink RX2 21 "CapitalReckoner$Search" "prices" "[J", Cond.methodLink RX2 68 yX2_weightedWith, Cond.instanceMethod yX2_weightedWith, Cond.selects RX2 yX2_weightedWith yX2_weightedWith, Cond.code yX2_weightedWith cX2_weightedWith 3 (some .int), Cond.methodLink RX2 65 yX2_leastOf, Cond.instanceMethod yX2_leastOf, Cond.selects RX2 yX2_leastOf yX2_leastOf, Cond.code yX2_leastOf cX2_leastOf 6 (some .long), Cond.methodLink RX2 78 Lib.MathLoose.min_long.x, Cond.static Lib.MathLoose.min_long.x, Cond.code Lib.MathLoose.min_long.x Lib.MathLoose.min_long.code 4 (some .long), Cond.methodLink RX2 71 yX2_priceOf, Cond.instanceMethod yX2_priceOf, Cond.selects RX2 yX2_priceOf yX2_priceOf, Cond.code yX2_priceOf cX2_priceOf 2 (some .long)]
def wsL_bare_r6 : List Cond := [Cond.methodLink RX2 75 yX2_leastKey, Cond.instanceMethod yX2_leastKey, Cond.selects RX2 yX2_leastKey yX2_leastKey, Cond.code yX2_leastKey cX2_leastKey 2 (some .long), Cond.instanceMethod yX2_givenSet, Cond.selects RX2 yX2_givenSet yX2_givenSet, Cond.code yX2_givenSet cX2_givenSet 4 (some .int), Cond.methodLink RX2 89 yX2_takerOf, Cond.instanceMethod yX2_takerOf, Cond.selects RX2 yX2_takerOf yX2_takerOf, Cond.code yX2_takerOf cX2_takerOf 3 (some .int), Cond.methodLink RX2 85 yX2_bestKey, Cond.instanceMethod yX2_bestKey, Cond.selects RX2 yX2_bestKey yX2_bestKey, Cond.code yX2_bestKey cX2_bestKey 1 (some .long), Cond.methodLink RX2 81 yX2_allGifts, Cond.instanceMethod yX2_allGifts, Cond.selects RX2 yX2_allGifts yX2_allGifts, Cond.code yX2_allGifts cX2_allGifts 1 (some .int)]
def wsL_bare : List Cond := .codeWith yL_bare cL_bare 4 (some .int) [(0, 9, 12, 13)] :: ((wsL_bare_r1 ++ (wsL_bare_r2 ++ (wsL_bare_r3 ++ (wsL_bare_r4 ++ (wsL_bare_r5 ++ wsL_bare_r6))))) ++ wsX30 ++ wsX20 ++ wsX10 ++ wsX00 ++ (vx_atS RX3 56 "java/lang/IndexOutOfBoundsException" ["java/lang/RuntimeException", "java/lang/Exception"]).filter goodWord)
def wsL_weighted_r1 : List Cond := [Cond.classLink RL 13 "java/lang/IndexOutOfBoundsException", Cond.methodLink RL 59 yX3_weighted, Cond.instanceMethod yX3_weighted, Cond.selects RX3 yX3_weighted yX3_weighted, Cond.initialized RX3, Cond.code yX3_weighted cX3_weighted 3 (some .int), Cond.classLink RX3 52 "java/lang/IndexOutOfBoundsException", Cond.initialized "java/lang/IndexOutOfBoundsException", Cond.fieldLink RX3 31 "CapitalReckoner" "search" "LCapitalReckoner$Search;", Cond.methodLink RX3 105 yX3_exposureAt, Cond.instanceMethod yX3_exposureAt, Cond.selects RX3 yX3_exposureAt yX3_exposureAt, Cond.code yX3_exposureAt cX3_exposureAt 2 (some (.object "CapitalReckoner$Exposure")), Cond.fieldLink RX3 18 "CapitalReckoner" "book" "[LCapitalReckoner$Exposure;", Cond.methodLink RX3 169 yX3_findBest, Cond.instanceMethod yX3_findBest, Cond.selects RX3 yX3_findBest yX3_findBest, Cond.code yX3_findBest cX3_findBest 1 none, Cond.methodLink RX3 189 yX3_fillSearch, Cond.instanceMethod yX3_fillSearch, Cond.selects RX3 yX3_fillSearch yX3_fillSearch, Cond.code yX3_fillSearch cX3_fillSearch 4 none, Cond.fieldLink RX3 35 "CapitalReckoner" "exposureCount" "I", Cond.fieldLink RX3 39 "CapitalReckoner" "pieceCount" "I"]
def wsL_weighted_r2 : List Cond := [Cond.instanceMethod yX2_begin, Cond.initialized RX2, Cond.selects RX2 yX2_begin yX2_begin, Cond.code yX2_begin cX2_begin 3 none, Cond.methodLink RX2 28 Lib.Math.min.name, Cond.static Lib.Math.min.name, Cond.initialized "java/lang/Math", Cond.code Lib.Math.min.name Lib.Math.min.code 2 (some .int), Cond.fieldLink RX2 34 "CapitalReckoner$Search" "takers" "I", Cond.fieldLink RX2 38 "CapitalReckoner$Search" "gifts" "I", Cond.methodLink RX3 237 yX3_usableFor, Cond.instanceMethod yX3_usableFor, Cond.selects RX3 yX3_usableFor yX3_usableFor, Cond.code yX3_usableFor cX3_usableFor 5 (some .int), Cond.methodLink RX3 149 yX3_pieceAt, Cond.instanceMethod yX3_pieceAt, Cond.selects RX3 yX3_pieceAt yX3_pieceAt, Cond.code yX3_pieceAt cX3_pieceAt 2 (some (.object "CapitalReckoner$Piece")), Cond.fieldLink RX3 24 "CapitalReckoner" "collateral" "[LCapitalReckoner$Piece;", Cond.methodLink RX3 220 yX3_has, Cond.static yX3_has, Cond.code yX3_has cX3_has 2 (some .boolean), Cond.instanceMethod yX2_setUsable, Cond.selects RX2 yX2_setUsable yX2_setUsable]
def wsL_weighted_r3 : List Cond := [Cond.code yX2_setUsable cX2_setUsable 3 none, Cond.fieldLink RX2 11 "CapitalReckoner$Search" "usable" "[I", Cond.static yX3_put, Cond.code yX3_put cX3_put 3 none, Cond.methodLink RX3 179 yX3_bareWith, Cond.instanceMethod yX3_bareWith, Cond.selects RX3 yX3_bareWith yX3_bareWith, Cond.code yX3_bareWith cX3_bareWith 6 (some .int), Cond.methodLink RX3 208 Lib.Math.max.name, Cond.static Lib.Math.max.name, Cond.code Lib.Math.max.name Lib.Math.max.code 2 (some .int), Cond.instanceMethod yX0_amountNow, Cond.initialized RX0, Cond.selects RX0 yX0_amountNow yX0_amountNow, Cond.code yX0_amountNow cX0_amountNow 1 (some .int), Cond.fieldLink RX0 18 "CapitalReckoner$Exposure" "drawn" "I", Cond.fieldLink RX0 21 "CapitalReckoner$Exposure" "promised" "I", Cond.static yX3_percentOf, Cond.code yX3_percentOf cX3_percentOf 2 (some .int), Cond.constantLong RX3 218 (100), Cond.instanceMethod yX1_valueFor, Cond.initialized RX1, Cond.selects RX1 yX1_valueFor yX1_valueFor, Cond.code yX1_valueFor cX1_valueFor 3 (some .int)]
def wsL_weighted_r4 : List Cond := [Cond.fieldLink RX1 9 "CapitalReckoner$Piece" "amount" "I", Cond.fieldLink RX1 15 "CapitalReckoner$Piece" "haircut" "I", Cond.fieldLink RX1 18 "CapitalReckoner$Piece" "currency" "I", Cond.fieldLink RX1 21 "CapitalReckoner$Piece" "days" "I", Cond.methodLink RX3 183 yX3_weightedOf, Cond.instanceMethod yX3_weightedOf, Cond.selects RX3 yX3_weightedOf yX3_weightedOf, Cond.code yX3_weightedOf cX3_weightedOf 6 (some .int), Cond.fieldLink RX3 7 "CapitalReckoner" "weights" "[I", Cond.methodLink RX3 224 Lib.Math.min.name, Cond.methodLink RX3 68 yX3_at, Cond.static yX3_at, Cond.code yX3_at cX3_at 2 (some .int), Cond.methodLink RX3 198 yX3_percentOf, Cond.instanceMethod yX2_setWeighted, Cond.selects RX2 yX2_setWeighted yX2_setWeighted, Cond.code yX2_setWeighted cX2_setWeighted 4 none, Cond.fieldLink RX2 15 "CapitalReckoner$Search" "weightedBySet" "[I", Cond.instanceMethod yX2_findLeast, Cond.selects RX2 yX2_findLeast yX2_findLeast, Cond.code yX2_findLeast cX2_findLeast 3 none, Cond.fieldLink RX2 25 "CapitalReckoner$Search" "least" "[J", Cond.methodLink RX2 57 yX2_digitsOf, Cond.static yX2_digitsOf]
def wsL_weighted_r5 : List Cond := [Cond.code yX2_digitsOf cX2_digitsOf 5 (some .long), Cond.methodLink RX2 53 yX2_digitShift, Cond.static yX2_digitShift, Cond.code yX2_digitShift cX2_digitShift 1 (some .int), Cond.methodLink RX2 61 yX2_fillPrices, Cond.instanceMethod yX2_fillPrices, Cond.selects RX2 yX2_fillPrices yX2_fillPrices, Cond.code yX2_fillPrices cX2_fillPrices 3 none, Cond.fieldLink RX2 21 "CapitalReckoner$Search" "prices" "[J", Cond.methodLink RX2 68 yX2_weightedWith, Cond.instanceMethod yX2_weightedWith, Cond.selects RX2 yX2_weightedWith yX2_weightedWith, Cond.code yX2_weightedWith cX2_weightedWith 3 (some .int), Cond.methodLink RX2 65 yX2_leastOf, Cond.instanceMethod yX2_leastOf, Cond.selects RX2 yX2_leastOf yX2_leastOf, Cond.code yX2_leastOf cX2_leastOf 6 (some .long), Cond.methodLink RX2 78 Lib.MathLoose.min_long.x, Cond.static Lib.MathLoose.min_long.x, Cond.code Lib.MathLoose.min_long.x Lib.MathLoose.min_long.code 4 (some .long), Cond.methodLink RX2 71 yX2_priceOf, Cond.instanceMethod yX2_priceOf, Cond.selects RX2 yX2_priceOf yX2_priceOf, Cond.code yX2_priceOf cX2_priceOf 2 (some .long)]
def wsL_weighted_r6 : List Cond := [Cond.methodLink RX2 75 yX2_leastKey, Cond.instanceMethod yX2_leastKey, Cond.selects RX2 yX2_leastKey yX2_leastKey, Cond.code yX2_leastKey cX2_leastKey 2 (some .long), Cond.instanceMethod yX2_givenSet, Cond.selects RX2 yX2_givenSet yX2_givenSet, Cond.code yX2_givenSet cX2_givenSet 4 (some .int), Cond.methodLink RX2 89 yX2_takerOf, Cond.instanceMethod yX2_takerOf, Cond.selects RX2 yX2_takerOf yX2_takerOf, Cond.code yX2_takerOf cX2_takerOf 3 (some .int), Cond.methodLink RX2 85 yX2_bestKey, Cond.instanceMethod yX2_bestKey, Cond.selects RX2 yX2_bestKey yX2_bestKey, Cond.code yX2_bestKey cX2_bestKey 1 (some .long), Cond.methodLink RX2 81 yX2_allGifts, Cond.instanceMethod yX2_allGifts, Cond.selects RX2 yX2_allGifts yX2_allGifts, Cond.code yX2_allGifts cX2_allGifts 1 (some .int)]
def wsL_weighted : List Cond := .codeWith yL_weighted cL_weighted 4 (some .int) [(0, 9, 12, 13)] :: ((wsL_weighted_r1 ++ (wsL_weighted_r2 ++ (wsL_weighted_r3 ++ (wsL_weighted_r4 ++ (wsL_weighted_r5 ++ wsL_weighted_r6))))) ++ wsX30 ++ wsX20 ++ wsX10 ++ wsX00 ++ (vx_atS RX3 56 "java/lang/IndexOutOfBoundsException" ["java/lang/RuntimeException", "java/lang/Exception"]).filter goodWord)
def wsL_worth_r1 : List Cond := [Cond.classLink RL 13 "java/lang/IndexOutOfBoundsException", Cond.methodLink RL 62 yX3_worth, Cond.instanceMethod yX3_worth, Cond.selects RX3 yX3_worth yX3_worth, Cond.initialized RX3, Cond.code yX3_worth cX3_worth 2 (some .int), Cond.classLink RX3 52 "java/lang/IndexOutOfBoundsException", Cond.initialized "java/lang/IndexOutOfBoundsException", Cond.fieldLink RX3 31 "CapitalReckoner" "search" "LCapitalReckoner$Search;", Cond.methodLink RX3 149 yX3_pieceAt, Cond.instanceMethod yX3_pieceAt, Cond.selects RX3 yX3_pieceAt yX3_pieceAt, Cond.code yX3_pieceAt cX3_pieceAt 2 (some (.object "CapitalReckoner$Piece")), Cond.fieldLink RX3 24 "CapitalReckoner" "collateral" "[LCapitalReckoner$Piece;", Cond.methodLink RX3 169 yX3_findBest, Cond.instanceMethod yX3_findBest, Cond.selects RX3 yX3_findBest yX3_findBest, Cond.code yX3_findBest cX3_findBest 1 none, Cond.methodLink RX3 189 yX3_fillSearch, Cond.instanceMethod yX3_fillSearch, Cond.selects RX3 yX3_fillSearch yX3_fillSearch, Cond.code yX3_fillSearch cX3_fillSearch 4 none, Cond.fieldLink RX3 35 "CapitalReckoner" "exposureCount" "I", Cond.fieldLink RX3 39 "CapitalReckoner" "pieceCount" "I"]
def wsL_worth_r2 : List Cond := [Cond.instanceMethod yX2_begin, Cond.initialized RX2, Cond.selects RX2 yX2_begin yX2_begin, Cond.code yX2_begin cX2_begin 3 none, Cond.methodLink RX2 28 Lib.Math.min.name, Cond.static Lib.Math.min.name, Cond.initialized "java/lang/Math", Cond.code Lib.Math.min.name Lib.Math.min.code 2 (some .int), Cond.fieldLink RX2 34 "CapitalReckoner$Search" "takers" "I", Cond.fieldLink RX2 38 "CapitalReckoner$Search" "gifts" "I", Cond.methodLink RX3 105 yX3_exposureAt, Cond.instanceMethod yX3_exposureAt, Cond.selects RX3 yX3_exposureAt yX3_exposureAt, Cond.code yX3_exposureAt cX3_exposureAt 2 (some (.object "CapitalReckoner$Exposure")), Cond.fieldLink RX3 18 "CapitalReckoner" "book" "[LCapitalReckoner$Exposure;", Cond.methodLink RX3 237 yX3_usableFor, Cond.instanceMethod yX3_usableFor, Cond.selects RX3 yX3_usableFor yX3_usableFor, Cond.code yX3_usableFor cX3_usableFor 5 (some .int), Cond.methodLink RX3 220 yX3_has, Cond.static yX3_has, Cond.code yX3_has cX3_has 2 (some .boolean), Cond.instanceMethod yX2_setUsable, Cond.selects RX2 yX2_setUsable yX2_setUsable]
def wsL_worth_r3 : List Cond := [Cond.code yX2_setUsable cX2_setUsable 3 none, Cond.fieldLink RX2 11 "CapitalReckoner$Search" "usable" "[I", Cond.static yX3_put, Cond.code yX3_put cX3_put 3 none, Cond.methodLink RX3 179 yX3_bareWith, Cond.instanceMethod yX3_bareWith, Cond.selects RX3 yX3_bareWith yX3_bareWith, Cond.code yX3_bareWith cX3_bareWith 6 (some .int), Cond.methodLink RX3 208 Lib.Math.max.name, Cond.static Lib.Math.max.name, Cond.code Lib.Math.max.name Lib.Math.max.code 2 (some .int), Cond.instanceMethod yX0_amountNow, Cond.initialized RX0, Cond.selects RX0 yX0_amountNow yX0_amountNow, Cond.code yX0_amountNow cX0_amountNow 1 (some .int), Cond.fieldLink RX0 18 "CapitalReckoner$Exposure" "drawn" "I", Cond.fieldLink RX0 21 "CapitalReckoner$Exposure" "promised" "I", Cond.static yX3_percentOf, Cond.code yX3_percentOf cX3_percentOf 2 (some .int), Cond.constantLong RX3 218 (100), Cond.instanceMethod yX1_valueFor, Cond.initialized RX1, Cond.selects RX1 yX1_valueFor yX1_valueFor, Cond.code yX1_valueFor cX1_valueFor 3 (some .int)]
def wsL_worth_r4 : List Cond := [Cond.fieldLink RX1 9 "CapitalReckoner$Piece" "amount" "I", Cond.fieldLink RX1 15 "CapitalReckoner$Piece" "haircut" "I", Cond.fieldLink RX1 18 "CapitalReckoner$Piece" "currency" "I", Cond.fieldLink RX1 21 "CapitalReckoner$Piece" "days" "I", Cond.methodLink RX3 183 yX3_weightedOf, Cond.instanceMethod yX3_weightedOf, Cond.selects RX3 yX3_weightedOf yX3_weightedOf, Cond.code yX3_weightedOf cX3_weightedOf 6 (some .int), Cond.fieldLink RX3 7 "CapitalReckoner" "weights" "[I", Cond.methodLink RX3 224 Lib.Math.min.name, Cond.methodLink RX3 68 yX3_at, Cond.static yX3_at, Cond.code yX3_at cX3_at 2 (some .int), Cond.methodLink RX3 198 yX3_percentOf, Cond.instanceMethod yX2_setWeighted, Cond.selects RX2 yX2_setWeighted yX2_setWeighted, Cond.code yX2_setWeighted cX2_setWeighted 4 none, Cond.fieldLink RX2 15 "CapitalReckoner$Search" "weightedBySet" "[I", Cond.instanceMethod yX2_findLeast, Cond.selects RX2 yX2_findLeast yX2_findLeast, Cond.code yX2_findLeast cX2_findLeast 3 none, Cond.fieldLink RX2 25 "CapitalReckoner$Search" "least" "[J", Cond.methodLink RX2 57 yX2_digitsOf, Cond.static yX2_digitsOf]
def wsL_worth_r5 : List Cond := [Cond.code yX2_digitsOf cX2_digitsOf 5 (some .long), Cond.methodLink RX2 53 yX2_digitShift, Cond.static yX2_digitShift, Cond.code yX2_digitShift cX2_digitShift 1 (some .int), Cond.methodLink RX2 61 yX2_fillPrices, Cond.instanceMethod yX2_fillPrices, Cond.selects RX2 yX2_fillPrices yX2_fillPrices, Cond.code yX2_fillPrices cX2_fillPrices 3 none, Cond.fieldLink RX2 21 "CapitalReckoner$Search" "prices" "[J", Cond.methodLink RX2 68 yX2_weightedWith, Cond.instanceMethod yX2_weightedWith, Cond.selects RX2 yX2_weightedWith yX2_weightedWith, Cond.code yX2_weightedWith cX2_weightedWith 3 (some .int), Cond.methodLink RX2 65 yX2_leastOf, Cond.instanceMethod yX2_leastOf, Cond.selects RX2 yX2_leastOf yX2_leastOf, Cond.code yX2_leastOf cX2_leastOf 6 (some .long), Cond.methodLink RX2 78 Lib.MathLoose.min_long.x, Cond.static Lib.MathLoose.min_long.x, Cond.code Lib.MathLoose.min_long.x Lib.MathLoose.min_long.code 4 (some .long), Cond.methodLink RX2 71 yX2_priceOf, Cond.instanceMethod yX2_priceOf, Cond.selects RX2 yX2_priceOf yX2_priceOf, Cond.code yX2_priceOf cX2_priceOf 2 (some .long)]
def wsL_worth_r6 : List Cond := [Cond.methodLink RX2 75 yX2_leastKey, Cond.instanceMethod yX2_leastKey, Cond.selects RX2 yX2_leastKey yX2_leastKey, Cond.code yX2_leastKey cX2_leastKey 2 (some .long), Cond.instanceMethod yX2_wholeWithout, Cond.selects RX2 yX2_wholeWithout yX2_wholeWithout, Cond.code yX2_wholeWithout cX2_wholeWithout 2 (some .int), Cond.methodLink RX2 81 yX2_allGifts, Cond.instanceMethod yX2_allGifts, Cond.selects RX2 yX2_allGifts yX2_allGifts, Cond.code yX2_allGifts cX2_allGifts 1 (some .int), Cond.instanceMethod yX2_bestWhole, Cond.selects RX2 yX2_bestWhole yX2_bestWhole, Cond.code yX2_bestWhole cX2_bestWhole 1 (some .int), Cond.methodLink RX2 85 yX2_bestKey, Cond.instanceMethod yX2_bestKey, Cond.selects RX2 yX2_bestKey yX2_bestKey, Cond.code yX2_bestKey cX2_bestKey 1 (some .long)]
def wsL_worth : List Cond := .codeWith yL_worth cL_worth 4 (some .int) [(0, 9, 12, 13)] :: ((wsL_worth_r1 ++ (wsL_worth_r2 ++ (wsL_worth_r3 ++ (wsL_worth_r4 ++ (wsL_worth_r5 ++ wsL_worth_r6))))) ++ wsX30 ++ wsX20 ++ wsX10 ++ wsX00 ++ (vx_atS RX3 56 "java/lang/IndexOutOfBoundsException" ["java/lang/RuntimeException", "java/lang/Exception"]).filter goodWord)
def wsL_partyBare_r1 : List Cond := [Cond.classLink RL 13 "java/lang/IndexOutOfBoundsException", Cond.methodLink RL 65 yX3_partyBare, Cond.instanceMethod yX3_partyBare, Cond.selects RX3 yX3_partyBare yX3_partyBare, Cond.initialized RX3, Cond.code yX3_partyBare cX3_partyBare 2 (some .int), Cond.classLink RX3 52 "java/lang/IndexOutOfBoundsException", Cond.initialized "java/lang/IndexOutOfBoundsException", Cond.methodLink RX3 81 yX3_isParty, Cond.static yX3_isParty, Cond.code yX3_isParty cX3_isParty 1 (some .boolean), Cond.methodLink RX3 59 yX3_isWithin, Cond.static yX3_isWithin, Cond.code yX3_isWithin cX3_isWithin 3 (some .boolean), Cond.methodLink RX3 169 yX3_findBest, Cond.instanceMethod yX3_findBest, Cond.selects RX3 yX3_findBest yX3_findBest, Cond.code yX3_findBest cX3_findBest 1 none, Cond.fieldLink RX3 31 "CapitalReckoner" "search" "LCapitalReckoner$Search;", Cond.methodLink RX3 189 yX3_fillSearch, Cond.instanceMethod yX3_fillSearch, Cond.selects RX3 yX3_fillSearch yX3_fillSearch, Cond.code yX3_fillSearch cX3_fillSearch 4 none, Cond.fieldLink RX3 35 "CapitalReckoner" "exposureCount" "I"]
def wsL_partyBare_r2 : List Cond := [Cond.fieldLink RX3 39 "CapitalReckoner" "pieceCount" "I", Cond.instanceMethod yX2_begin, Cond.initialized RX2, Cond.selects RX2 yX2_begin yX2_begin, Cond.code yX2_begin cX2_begin 3 none, Cond.methodLink RX2 28 Lib.Math.min.name, Cond.static Lib.Math.min.name, Cond.initialized "java/lang/Math", Cond.code Lib.Math.min.name Lib.Math.min.code 2 (some .int), Cond.fieldLink RX2 34 "CapitalReckoner$Search" "takers" "I", Cond.fieldLink RX2 38 "CapitalReckoner$Search" "gifts" "I", Cond.methodLink RX3 105 yX3_exposureAt, Cond.instanceMethod yX3_exposureAt, Cond.selects RX3 yX3_exposureAt yX3_exposureAt, Cond.code yX3_exposureAt cX3_exposureAt 2 (some (.object "CapitalReckoner$Exposure")), Cond.fieldLink RX3 18 "CapitalReckoner" "book" "[LCapitalReckoner$Exposure;", Cond.methodLink RX3 237 yX3_usableFor, Cond.instanceMethod yX3_usableFor, Cond.selects RX3 yX3_usableFor yX3_usableFor, Cond.code yX3_usableFor cX3_usableFor 5 (some .int), Cond.methodLink RX3 149 yX3_pieceAt, Cond.instanceMethod yX3_pieceAt, Cond.selects RX3 yX3_pieceAt yX3_pieceAt, Cond.code yX3_pieceAt cX3_pieceAt 2 (some (.object "CapitalReckoner$Piece"))]
def wsL_partyBare_r3 : List Cond := [Cond.fieldLink RX3 24 "CapitalReckoner" "collateral" "[LCapitalReckoner$Piece;", Cond.methodLink RX3 220 yX3_has, Cond.static yX3_has, Cond.code yX3_has cX3_has 2 (some .boolean), Cond.instanceMethod yX2_setUsable, Cond.selects RX2 yX2_setUsable yX2_setUsable, Cond.code yX2_setUsable cX2_setUsable 3 none, Cond.fieldLink RX2 11 "CapitalReckoner$Search" "usable" "[I", Cond.static yX3_put, Cond.code yX3_put cX3_put 3 none, Cond.methodLink RX3 179 yX3_bareWith, Cond.instanceMethod yX3_bareWith, Cond.selects RX3 yX3_bareWith yX3_bareWith, Cond.code yX3_bareWith cX3_bareWith 6 (some .int), Cond.methodLink RX3 208 Lib.Math.max.name, Cond.static Lib.Math.max.name, Cond.code Lib.Math.max.name Lib.Math.max.code 2 (some .int), Cond.instanceMethod yX0_amountNow, Cond.initialized RX0, Cond.selects RX0 yX0_amountNow yX0_amountNow, Cond.code yX0_amountNow cX0_amountNow 1 (some .int), Cond.fieldLink RX0 18 "CapitalReckoner$Exposure" "drawn" "I", Cond.fieldLink RX0 21 "CapitalReckoner$Exposure" "promised" "I", Cond.static yX3_percentOf]
def wsL_partyBare_r4 : List Cond := [Cond.code yX3_percentOf cX3_percentOf 2 (some .int), Cond.constantLong RX3 218 (100), Cond.instanceMethod yX1_valueFor, Cond.initialized RX1, Cond.selects RX1 yX1_valueFor yX1_valueFor, Cond.code yX1_valueFor cX1_valueFor 3 (some .int), Cond.fieldLink RX1 9 "CapitalReckoner$Piece" "amount" "I", Cond.fieldLink RX1 15 "CapitalReckoner$Piece" "haircut" "I", Cond.fieldLink RX1 18 "CapitalReckoner$Piece" "currency" "I", Cond.fieldLink RX1 21 "CapitalReckoner$Piece" "days" "I", Cond.methodLink RX3 183 yX3_weightedOf, Cond.instanceMethod yX3_weightedOf, Cond.selects RX3 yX3_weightedOf yX3_weightedOf, Cond.code yX3_weightedOf cX3_weightedOf 6 (some .int), Cond.fieldLink RX3 7 "CapitalReckoner" "weights" "[I", Cond.methodLink RX3 224 Lib.Math.min.name, Cond.methodLink RX3 68 yX3_at, Cond.static yX3_at, Cond.code yX3_at cX3_at 2 (some .int), Cond.methodLink RX3 198 yX3_percentOf, Cond.instanceMethod yX2_setWeighted, Cond.selects RX2 yX2_setWeighted yX2_setWeighted, Cond.code yX2_setWeighted cX2_setWeighted 4 none, Cond.fieldLink RX2 15 "CapitalReckoner$Search" "weightedBySet" "[I"]
def wsL_partyBare_r5 : List Cond := [Cond.instanceMethod yX2_findLeast, Cond.selects RX2 yX2_findLeast yX2_findLeast, Cond.code yX2_findLeast cX2_findLeast 3 none, Cond.fieldLink RX2 25 "CapitalReckoner$Search" "least" "[J", Cond.methodLink RX2 57 yX2_digitsOf, Cond.static yX2_digitsOf, Cond.code yX2_digitsOf cX2_digitsOf 5 (some .long), Cond.methodLink RX2 53 yX2_digitShift, Cond.static yX2_digitShift, Cond.code yX2_digitShift cX2_digitShift 1 (some .int), Cond.methodLink RX2 61 yX2_fillPrices, Cond.instanceMethod yX2_fillPrices, Cond.selects RX2 yX2_fillPrices yX2_fillPrices, Cond.code yX2_fillPrices cX2_fillPrices 3 none, Cond.fieldLink RX2 21 "CapitalReckoner$Search" "prices" "[J", Cond.methodLink RX2 68 yX2_weightedWith, Cond.instanceMethod yX2_weightedWith, Cond.selects RX2 yX2_weightedWith yX2_weightedWith, Cond.code yX2_weightedWith cX2_weightedWith 3 (some .int), Cond.methodLink RX2 65 yX2_leastOf, Cond.instanceMethod yX2_leastOf, Cond.selects RX2 yX2_leastOf yX2_leastOf, Cond.code yX2_leastOf cX2_leastOf 6 (some .long), Cond.methodLink RX2 78 Lib.MathLoose.min_long.x]
def wsL_partyBare_r6 : List Cond := [Cond.static Lib.MathLoose.min_long.x, Cond.code Lib.MathLoose.min_long.x Lib.MathLoose.min_long.code 4 (some .long), Cond.methodLink RX2 71 yX2_priceOf, Cond.instanceMethod yX2_priceOf, Cond.selects RX2 yX2_priceOf yX2_priceOf, Cond.code yX2_priceOf cX2_priceOf 2 (some .long), Cond.methodLink RX2 75 yX2_leastKey, Cond.instanceMethod yX2_leastKey, Cond.selects RX2 yX2_leastKey yX2_leastKey, Cond.code yX2_leastKey cX2_leastKey 2 (some .long), Cond.methodLink RX3 215 yX3_bareOfParty, Cond.instanceMethod yX3_bareOfParty, Cond.selects RX3 yX3_bareOfParty yX3_bareOfParty, Cond.code yX3_bareOfParty cX3_bareOfParty 5 (some .int), Cond.instanceMethod yX2_givenSet, Cond.selects RX2 yX2_givenSet yX2_givenSet, Cond.code yX2_givenSet cX2_givenSet 4 (some .int), Cond.methodLink RX2 89 yX2_takerOf, Cond.instanceMethod yX2_takerOf, Cond.selects RX2 yX2_takerOf yX2_takerOf, Cond.code yX2_takerOf cX2_takerOf 3 (some .int), Cond.methodLink RX2 85 yX2_bestKey, Cond.instanceMethod yX2_bestKey, Cond.selects RX2 yX2_bestKey yX2_bestKey]
def wsL_partyBare_r7 : List Cond := [Cond.code yX2_bestKey cX2_bestKey 1 (some .long), Cond.methodLink RX2 81 yX2_allGifts, Cond.instanceMethod yX2_allGifts, Cond.selects RX2 yX2_allGifts yX2_allGifts, Cond.code yX2_allGifts cX2_allGifts 1 (some .int)]
def wsL_partyBare : List Cond := .codeWith yL_partyBare cL_partyBare 4 (some .int) [(0, 9, 12, 13)] :: ((wsL_partyBare_r1 ++ (wsL_partyBare_r2 ++ (wsL_partyBare_r3 ++ (wsL_partyBare_r4 ++ (wsL_partyBare_r5 ++ (wsL_partyBare_r6 ++ wsL_partyBare_r7)))))) ++ wsX30 ++ wsX20 ++ wsX10 ++ wsX00 ++ (vx_atS RX3 56 "java/lang/IndexOutOfBoundsException" ["java/lang/RuntimeException", "java/lang/Exception"]).filter goodWord)
def wsL_law0_r1 : List Cond := [Cond.classLink RL 8 RX3, Cond.instantiable RX3 9, Cond.initialized RX3, Cond.classLink RL 69 RX4, Cond.instantiable RX4 23, Cond.initialized RX4, Cond.arrayClass .long, Cond.methodLink RL 68 yX3_init, Cond.instanceMethod yX3_init, Cond.code yX3_init cX3_init 1 none, Cond.methodLink RX3 1 objectInit, Cond.instanceMethod objectInit, Cond.code objectInit ⟨#[0xb1]⟩ 1 none, Cond.arrayClass .int, Cond.fieldLink RX3 7 "CapitalReckoner" "weights" "[I", Cond.fieldLink RX3 13 "CapitalReckoner" "plainWeights" "[I", Cond.classLink RX3 16 RX0, Cond.fieldLink RX3 18 "CapitalReckoner" "book" "[LCapitalReckoner$Exposure;", Cond.classLink RX3 22 RX1, Cond.fieldLink RX3 24 "CapitalReckoner" "collateral" "[LCapitalReckoner$Piece;", Cond.classLink RX3 28 RX2, Cond.instantiable RX2 7, Cond.initialized RX2, Cond.fieldLink RX3 31 "CapitalReckoner" "search" "LCapitalReckoner$Search;"]
def wsL_law0_r2 : List Cond := [Cond.fieldLink RX3 35 "CapitalReckoner" "exposureCount" "I", Cond.fieldLink RX3 39 "CapitalReckoner" "pieceCount" "I", Cond.fieldLink RX3 42 "CapitalReckoner" "floor" "I", Cond.fieldLink RX3 45 "CapitalReckoner" "capital" "I", Cond.instanceMethod yX2_init, Cond.code yX2_init cX2_init 1 none, Cond.methodLink RX2 5 objectInit, Cond.fieldLink RX2 11 "CapitalReckoner$Search" "usable" "[I", Cond.fieldLink RX2 15 "CapitalReckoner$Search" "weightedBySet" "[I", Cond.fieldLink RX2 18 "CapitalReckoner$Search" "tried" "[I", Cond.fieldLink RX2 21 "CapitalReckoner$Search" "prices" "[J", Cond.fieldLink RX2 25 "CapitalReckoner$Search" "least" "[J", Cond.methodLink RL 71 yX4_init, Cond.instanceMethod yX4_init, Cond.code yX4_init cX4_init 1 none, Cond.methodLink RX4 1 objectInit, Cond.fieldLink RX4 7 "CapitalReckonerModel" "weight" "[I", Cond.fieldLink RX4 13 "CapitalReckonerModel" "simple" "[I", Cond.fieldLink RX4 16 "CapitalReckonerModel" "floor" "I", Cond.fieldLink RX4 20 "CapitalReckonerModel" "kind" "[I", Cond.fieldLink RX4 23 "CapitalReckonerModel" "party" "[I", Cond.fieldLink RX4 26 "CapitalReckonerModel" "drawn" "[I", Cond.fieldLink RX4 29 "CapitalReckonerModel" "promised" "[I", Cond.fieldLink RX4 32 "CapitalReckonerModel" "currency" "[I"]
def wsL_law0_r3 : List Cond := [Cond.fieldLink RX4 35 "CapitalReckonerModel" "days" "[I", Cond.fieldLink RX4 38 "CapitalReckonerModel" "better" "[I", Cond.fieldLink RX4 41 "CapitalReckonerModel" "sure" "[I", Cond.fieldLink RX4 44 "CapitalReckonerModel" "size" "[I", Cond.fieldLink RX4 47 "CapitalReckonerModel" "cut" "[I", Cond.fieldLink RX4 50 "CapitalReckonerModel" "coin" "[I", Cond.fieldLink RX4 53 "CapitalReckonerModel" "left" "[I", Cond.fieldLink RX4 56 "CapitalReckonerModel" "uses" "[I", Cond.fieldLink RX4 59 "CapitalReckonerModel" "table" "[I", Cond.fieldLink RX4 62 "CapitalReckonerModel" "may" "[I", Cond.fieldLink RX4 65 "CapitalReckonerModel" "least" "[I", Cond.methodLink RL 72 yL_setWeights, Cond.static yL_setWeights, Cond.initialized RL, Cond.codeWith yL_setWeights cL_setWeights 6 (some .int) [(0, 12, 15, 13), (0, 12, 19, 15)], Cond.classLink RL 13 "java/lang/IndexOutOfBoundsException", Cond.classLink RL 15 "java/lang/IllegalArgumentException", Cond.methodLink RL 7 yX3_setWeights, Cond.instanceMethod yX3_setWeights, Cond.selects RX3 yX3_setWeights yX3_setWeights, Cond.code yX3_setWeights cX3_setWeights 5 (some .int), Cond.classLink RX3 52 "java/lang/IndexOutOfBoundsException", Cond.initialized "java/lang/IndexOutOfBoundsException", Cond.classLink RX3 63 "java/lang/IllegalArgumentException"]
def wsL_law0_r4 : List Cond := [Cond.initialized "java/lang/IllegalArgumentException", Cond.methodLink RX3 48 yX3_isClass, Cond.static yX3_isClass, Cond.code yX3_isClass cX3_isClass 1 (some .boolean), Cond.methodLink RX3 59 yX3_isWithin, Cond.static yX3_isWithin, Cond.code yX3_isWithin cX3_isWithin 3 (some .boolean), Cond.methodLink RX3 68 yX3_at, Cond.static yX3_at, Cond.code yX3_at cX3_at 2 (some .int), Cond.methodLink RX3 72 yX3_put, Cond.static yX3_put, Cond.code yX3_put cX3_put 3 none, Cond.methodLink RL 77 yX4_setWeights, Cond.instanceMethod yX4_setWeights, Cond.selects RX4 yX4_setWeights yX4_setWeights, Cond.code yX4_setWeights cX4_setWeights 5 (some .int), Cond.fieldLink RX4 68 "CapitalReckonerModel" "thrown" "I", Cond.methodLink RX4 83 yX4_isFour, Cond.static yX4_isFour, Cond.code yX4_isFour cX4_isFour 1 (some .boolean), Cond.methodLink RX4 71 yX4_isIn, Cond.static yX4_isIn, Cond.code yX4_isIn cX4_isIn 3 (some .boolean)]
def wsL_law0_r5 : List Cond := [Cond.methodLink RL 78 yX4_thrown, Cond.instanceMethod yX4_thrown, Cond.selects RX4 yX4_thrown yX4_thrown, Cond.code yX4_thrown cX4_thrown 1 (some .int), Cond.methodLink RL 82 yL_setFloor, Cond.static yL_setFloor, Cond.codeWith yL_setFloor cL_setFloor 4 (some .int) [(0, 9, 12, 15)], Cond.methodLink RL 17 yX3_setFloor, Cond.instanceMethod yX3_setFloor, Cond.selects RX3 yX3_setFloor yX3_setFloor, Cond.code yX3_setFloor cX3_setFloor 3 (some .int), Cond.methodLink RL 85 yX4_setFloor, Cond.instanceMethod yX4_setFloor, Cond.selects RX4 yX4_setFloor yX4_setFloor, Cond.code yX4_setFloor cX4_setFloor 3 (some .int), Cond.methodLink RL 86 yL_setCapital, Cond.static yL_setCapital, Cond.codeWith yL_setCapital cL_setCapital 4 (some .int) [(0, 9, 12, 15)], Cond.methodLink RL 21 yX3_setCapital, Cond.instanceMethod yX3_setCapital, Cond.selects RX3 yX3_setCapital yX3_setCapital, Cond.code yX3_setCapital cX3_setCapital 3 (some .int), Cond.constant RX3 78 (1000000000), Cond.methodLink RL 88 yX4_setCapital]
def wsL_law0_r6 : List Cond := [Cond.instanceMethod yX4_setCapital, Cond.selects RX4 yX4_setCapital yX4_setCapital, Cond.code yX4_setCapital cX4_setCapital 3 (some .int), Cond.constant RX4 87 (1000000000), Cond.fieldLink RX4 88 "CapitalReckonerModel" "capital" "I", Cond.methodLink RL 89 yL_addExposure, Cond.static yL_addExposure, Cond.codeWith yL_addExposure cL_addExposure 9 (some .int) [(0, 18, 21, 13), (0, 18, 25, 15), (0, 18, 29, 28)], Cond.classLink RL 28 "java/lang/IllegalStateException", Cond.methodLink RL 24 yX3_addExposure, Cond.instanceMethod yX3_addExposure, Cond.selects RX3 yX3_addExposure yX3_addExposure, Cond.code yX3_addExposure cX3_addExposure 8 (some .int), Cond.classLink RX3 97 "java/lang/IllegalStateException", Cond.initialized "java/lang/IllegalStateException", Cond.instantiable RX0 8, Cond.initialized RX0, Cond.methodLink RX3 81 yX3_isParty, Cond.static yX3_isParty, Cond.code yX3_isParty cX3_isParty 1 (some .boolean), Cond.methodLink RX3 86 yX3_isPart, Cond.static yX3_isPart, Cond.code yX3_isPart cX3_isPart 1 (some .boolean), Cond.constant RX3 112 (10000000)]
def wsL_law0_r7 : List Cond := [Cond.methodLink RX3 89 yX3_isCurrency, Cond.static yX3_isCurrency, Cond.code yX3_isCurrency cX3_isCurrency 1 (some .boolean), Cond.methodLink RX3 92 yX3_isDays, Cond.static yX3_isDays, Cond.code yX3_isDays cX3_isDays 1 (some .boolean), Cond.instanceMethod yX0_init, Cond.code yX0_init cX0_init 7 none, Cond.methodLink RX0 3 objectInit, Cond.fieldLink RX0 9 "CapitalReckoner$Exposure" "kind" "I", Cond.fieldLink RX0 15 "CapitalReckoner$Exposure" "party" "I", Cond.fieldLink RX0 18 "CapitalReckoner$Exposure" "drawn" "I", Cond.fieldLink RX0 21 "CapitalReckoner$Exposure" "promised" "I", Cond.fieldLink RX0 24 "CapitalReckoner$Exposure" "currency" "I", Cond.fieldLink RX0 27 "CapitalReckoner$Exposure" "days" "I", Cond.fieldLink RX0 30 "CapitalReckoner$Exposure" "guaranteeKind" "I", Cond.fieldLink RX0 33 "CapitalReckoner$Exposure" "guaranteeSum" "I", Cond.methodLink RL 92 yX4_addExposure, Cond.instanceMethod yX4_addExposure, Cond.selects RX4 yX4_addExposure yX4_addExposure, Cond.code yX4_addExposure cX4_addExposure 8 (some .int), Cond.fieldLink RX4 75 "CapitalReckonerModel" "exposures" "I", Cond.methodLink RX4 92 yX4_isSum, Cond.static yX4_isSum]
def wsL_law0_r8 : List Cond := [Cond.code yX4_isSum cX4_isSum 1 (some .boolean), Cond.constant RX4 91 (10000000), Cond.methodLink RL 93 yL_draw, Cond.static yL_draw, Cond.codeWith yL_draw cL_draw 5 (some .int) [(0, 10, 13, 13), (0, 10, 17, 15), (0, 10, 21, 28)], Cond.methodLink RL 30 yX3_draw, Cond.instanceMethod yX3_draw, Cond.selects RX3 yX3_draw yX3_draw, Cond.code yX3_draw cX3_draw 6 (some .int), Cond.constant RX3 111 (-10000000), Cond.methodLink RX3 105 yX3_exposureAt, Cond.instanceMethod yX3_exposureAt, Cond.selects RX3 yX3_exposureAt yX3_exposureAt, Cond.code yX3_exposureAt cX3_exposureAt 2 (some (.object "CapitalReckoner$Exposure")), Cond.methodLink RL 96 yX4_draw, Cond.instanceMethod yX4_draw, Cond.selects RX4 yX4_draw yX4_draw, Cond.code yX4_draw cX4_draw 3 (some .int), Cond.constant RX4 98 (-10000000), Cond.methodLink RX4 95 yX4_isExposure, Cond.instanceMethod yX4_isExposure, Cond.selects RX4 yX4_isExposure yX4_isExposure, Cond.code yX4_isExposure cX4_isExposure 2 (some .boolean), Cond.methodLink RL 97 yL_setClass]
def wsL_law0_r9 : List Cond := [Cond.static yL_setClass, Cond.codeWith yL_setClass cL_setClass 5 (some .int) [(0, 10, 13, 13)], Cond.methodLink RL 34 yX3_setClass, Cond.instanceMethod yX3_setClass, Cond.selects RX3 yX3_setClass yX3_setClass, Cond.code yX3_setClass cX3_setClass 5 (some .int), Cond.methodLink RL 99 yX4_setClass, Cond.instanceMethod yX4_setClass, Cond.selects RX4 yX4_setClass yX4_setClass, Cond.code yX4_setClass cX4_setClass 4 (some .int), Cond.methodLink RL 100 yL_guarantee, Cond.static yL_guarantee, Cond.codeWith yL_guarantee cL_guarantee 6 (some .int) [(0, 12, 15, 13), (0, 12, 19, 15)], Cond.methodLink RL 37 yX3_guarantee, Cond.instanceMethod yX3_guarantee, Cond.selects RX3 yX3_guarantee yX3_guarantee, Cond.code yX3_guarantee cX3_guarantee 6 (some .int), Cond.methodLink RL 102 yX4_guarantee, Cond.instanceMethod yX4_guarantee, Cond.selects RX4 yX4_guarantee yX4_guarantee, Cond.code yX4_guarantee cX4_guarantee 5 (some .int), Cond.methodLink RL 103 yX3_exposures, Cond.instanceMethod yX3_exposures, Cond.selects RX3 yX3_exposures yX3_exposures]
def wsL_law0_r10 : List Cond := [Cond.code yX3_exposures cX3_exposures 1 (some .int), Cond.methodLink RL 106 yX4_exposures, Cond.instanceMethod yX4_exposures, Cond.selects RX4 yX4_exposures yX4_exposures, Cond.code yX4_exposures cX4_exposures 1 (some .int), Cond.methodLink RL 107 yL_amount, Cond.static yL_amount, Cond.codeWith yL_amount cL_amount 4 (some .int) [(0, 9, 12, 13)], Cond.methodLink RL 40 yX3_amount, Cond.instanceMethod yX3_amount, Cond.selects RX3 yX3_amount yX3_amount, Cond.code yX3_amount cX3_amount 3 (some .int), Cond.instanceMethod yX0_amountNow, Cond.selects RX0 yX0_amountNow yX0_amountNow, Cond.code yX0_amountNow cX0_amountNow 1 (some .int), Cond.static yX3_percentOf, Cond.code yX3_percentOf cX3_percentOf 2 (some .int), Cond.constantLong RX3 218 (100), Cond.methodLink RL 109 yX4_amount, Cond.instanceMethod yX4_amount, Cond.selects RX4 yX4_amount yX4_amount, Cond.code yX4_amount cX4_amount 2 (some .int), Cond.methodLink RX4 103 yX4_amounts, Cond.instanceMethod yX4_amounts]
def wsL_law0_r11 : List Cond := [Cond.selects RX4 yX4_amounts yX4_amounts, Cond.code yX4_amounts cX4_amounts 2 (some .int), Cond.methodLink RX4 99 yX4_percent, Cond.static yX4_percent, Cond.code yX4_percent cX4_percent 2 (some .int), Cond.constantLong RX4 81 (100), Cond.methodLink RL 110 yL_addPiece, Cond.static yL_addPiece, Cond.codeWith yL_addPiece cL_addPiece 8 (some .int) [(0, 16, 19, 15), (0, 16, 23, 28)], Cond.methodLink RL 43 yX3_addPiece, Cond.instanceMethod yX3_addPiece, Cond.selects RX3 yX3_addPiece yX3_addPiece, Cond.code yX3_addPiece cX3_addPiece 7 (some .int), Cond.instantiable RX1 5, Cond.initialized RX1, Cond.methodLink RX3 136 yX3_isPieceSum, Cond.static yX3_isPieceSum, Cond.code yX3_isPieceSum cX3_isPieceSum 1 (some .boolean), Cond.methodLink RX3 139 yX3_isUses, Cond.static yX3_isUses, Cond.code yX3_isUses cX3_isUses 1 (some .boolean), Cond.instanceMethod yX1_init, Cond.code yX1_init cX1_init 6 none, Cond.methodLink RX1 3 objectInit]
def wsL_law0_r12 : List Cond := [Cond.fieldLink RX1 9 "CapitalReckoner$Piece" "amount" "I", Cond.fieldLink RX1 15 "CapitalReckoner$Piece" "haircut" "I", Cond.fieldLink RX1 18 "CapitalReckoner$Piece" "currency" "I", Cond.fieldLink RX1 21 "CapitalReckoner$Piece" "days" "I", Cond.fieldLink RX1 24 "CapitalReckoner$Piece" "uses" "I", Cond.methodLink RL 113 yX4_addPiece, Cond.instanceMethod yX4_addPiece, Cond.selects RX4 yX4_addPiece yX4_addPiece, Cond.code yX4_addPiece cX4_addPiece 7 (some .int), Cond.fieldLink RX4 78 "CapitalReckonerModel" "pieces" "I", Cond.methodLink RL 114 yL_setPiece, Cond.static yL_setPiece, Cond.codeWith yL_setPiece cL_setPiece 6 (some .int) [(0, 12, 15, 13), (0, 12, 19, 15)], Cond.methodLink RL 47 yX3_setPiece, Cond.instanceMethod yX3_setPiece, Cond.selects RX3 yX3_setPiece yX3_setPiece, Cond.code yX3_setPiece cX3_setPiece 6 (some .int), Cond.methodLink RX3 149 yX3_pieceAt, Cond.instanceMethod yX3_pieceAt, Cond.selects RX3 yX3_pieceAt yX3_pieceAt, Cond.code yX3_pieceAt cX3_pieceAt 2 (some (.object "CapitalReckoner$Piece")), Cond.methodLink RL 116 yX4_setPiece, Cond.instanceMethod yX4_setPiece, Cond.selects RX4 yX4_setPiece yX4_setPiece]
def wsL_law0_r13 : List Cond := [Cond.code yX4_setPiece cX4_setPiece 5 (some .int), Cond.methodLink RX4 107 yX4_isPiece, Cond.instanceMethod yX4_isPiece, Cond.selects RX4 yX4_isPiece yX4_isPiece, Cond.code yX4_isPiece cX4_isPiece 2 (some .boolean), Cond.methodLink RL 117 yX3_pieces, Cond.instanceMethod yX3_pieces, Cond.selects RX3 yX3_pieces yX3_pieces, Cond.code yX3_pieces cX3_pieces 1 (some .int), Cond.methodLink RL 120 yX4_pieces, Cond.instanceMethod yX4_pieces, Cond.selects RX4 yX4_pieces yX4_pieces, Cond.code yX4_pieces cX4_pieces 1 (some .int), Cond.methodLink RL 121 yL_value, Cond.static yL_value, Cond.codeWith yL_value cL_value 5 (some .int) [(0, 10, 13, 13)], Cond.methodLink RL 50 yX3_value, Cond.instanceMethod yX3_value, Cond.selects RX3 yX3_value yX3_value, Cond.code yX3_value cX3_value 5 (some .int), Cond.instanceMethod yX1_valueFor, Cond.selects RX1 yX1_valueFor yX1_valueFor, Cond.code yX1_valueFor cX1_valueFor 3 (some .int), Cond.methodLink RL 123 yX4_value]
def wsL_law0_r14 : List Cond := [Cond.instanceMethod yX4_value, Cond.selects RX4 yX4_value yX4_value, Cond.code yX4_value cX4_value 3 (some .int), Cond.methodLink RX4 110 yX4_valued, Cond.instanceMethod yX4_valued, Cond.selects RX4 yX4_valued yX4_valued, Cond.code yX4_valued cX4_valued 4 (some .int), Cond.methodLink RL 124 yL_givenTo, Cond.static yL_givenTo, Cond.codeWith yL_givenTo cL_givenTo 4 (some .int) [(0, 9, 12, 13)], Cond.methodLink RL 53 yX3_givenTo, Cond.instanceMethod yX3_givenTo, Cond.selects RX3 yX3_givenTo yX3_givenTo, Cond.code yX3_givenTo cX3_givenTo 2 (some .int), Cond.methodLink RX3 169 yX3_findBest, Cond.instanceMethod yX3_findBest, Cond.selects RX3 yX3_findBest yX3_findBest, Cond.code yX3_findBest cX3_findBest 1 none, Cond.methodLink RX3 189 yX3_fillSearch, Cond.instanceMethod yX3_fillSearch, Cond.selects RX3 yX3_fillSearch yX3_fillSearch, Cond.code yX3_fillSearch cX3_fillSearch 4 none, Cond.instanceMethod yX2_begin, Cond.selects RX2 yX2_begin yX2_begin]
def wsL_law0_r15 : List Cond := [Cond.code yX2_begin cX2_begin 3 none, Cond.methodLink RX2 28 Lib.Math.min.name, Cond.static Lib.Math.min.name, Cond.initialized "java/lang/Math", Cond.code Lib.Math.min.name Lib.Math.min.code 2 (some .int), Cond.fieldLink RX2 34 "CapitalReckoner$Search" "takers" "I", Cond.fieldLink RX2 38 "CapitalReckoner$Search" "gifts" "I", Cond.methodLink RX3 237 yX3_usableFor, Cond.instanceMethod yX3_usableFor, Cond.selects RX3 yX3_usableFor yX3_usableFor, Cond.code yX3_usableFor cX3_usableFor 5 (some .int), Cond.methodLink RX3 220 yX3_has, Cond.static yX3_has, Cond.code yX3_has cX3_has 2 (some .boolean), Cond.instanceMethod yX2_setUsable, Cond.selects RX2 yX2_setUsable yX2_setUsable, Cond.code yX2_setUsable cX2_setUsable 3 none, Cond.methodLink RX3 179 yX3_bareWith, Cond.instanceMethod yX3_bareWith, Cond.selects RX3 yX3_bareWith yX3_bareWith, Cond.code yX3_bareWith cX3_bareWith 6 (some .int), Cond.methodLink RX3 208 Lib.Math.max.name, Cond.static Lib.Math.max.name, Cond.code Lib.Math.max.name Lib.Math.max.code 2 (some .int)]
def wsL_law0_r16 : List Cond := [Cond.methodLink RX3 183 yX3_weightedOf, Cond.instanceMethod yX3_weightedOf, Cond.selects RX3 yX3_weightedOf yX3_weightedOf, Cond.code yX3_weightedOf cX3_weightedOf 6 (some .int), Cond.methodLink RX3 224 Lib.Math.min.name, Cond.methodLink RX3 198 yX3_percentOf, Cond.instanceMethod yX2_setWeighted, Cond.selects RX2 yX2_setWeighted yX2_setWeighted, Cond.code yX2_setWeighted cX2_setWeighted 4 none, Cond.instanceMethod yX2_findLeast, Cond.selects RX2 yX2_findLeast yX2_findLeast, Cond.code yX2_findLeast cX2_findLeast 3 none, Cond.methodLink RX2 57 yX2_digitsOf, Cond.static yX2_digitsOf, Cond.code yX2_digitsOf cX2_digitsOf 5 (some .long), Cond.methodLink RX2 53 yX2_digitShift, Cond.static yX2_digitShift, Cond.code yX2_digitShift cX2_digitShift 1 (some .int), Cond.methodLink RX2 61 yX2_fillPrices, Cond.instanceMethod yX2_fillPrices, Cond.selects RX2 yX2_fillPrices yX2_fillPrices, Cond.code yX2_fillPrices cX2_fillPrices 3 none, Cond.methodLink RX2 68 yX2_weightedWith, Cond.instanceMethod yX2_weightedWith]
def wsL_law0_r17 : List Cond := [Cond.selects RX2 yX2_weightedWith yX2_weightedWith, Cond.code yX2_weightedWith cX2_weightedWith 3 (some .int), Cond.methodLink RX2 65 yX2_leastOf, Cond.instanceMethod yX2_leastOf, Cond.selects RX2 yX2_leastOf yX2_leastOf, Cond.code yX2_leastOf cX2_leastOf 6 (some .long), Cond.methodLink RX2 78 Lib.MathLoose.min_long.x, Cond.static Lib.MathLoose.min_long.x, Cond.code Lib.MathLoose.min_long.x Lib.MathLoose.min_long.code 4 (some .long), Cond.methodLink RX2 71 yX2_priceOf, Cond.instanceMethod yX2_priceOf, Cond.selects RX2 yX2_priceOf yX2_priceOf, Cond.code yX2_priceOf cX2_priceOf 2 (some .long), Cond.methodLink RX2 75 yX2_leastKey, Cond.instanceMethod yX2_leastKey, Cond.selects RX2 yX2_leastKey yX2_leastKey, Cond.code yX2_leastKey cX2_leastKey 2 (some .long), Cond.instanceMethod yX2_takerOf, Cond.selects RX2 yX2_takerOf yX2_takerOf, Cond.code yX2_takerOf cX2_takerOf 3 (some .int), Cond.methodLink RX2 85 yX2_bestKey, Cond.instanceMethod yX2_bestKey, Cond.selects RX2 yX2_bestKey yX2_bestKey, Cond.code yX2_bestKey cX2_bestKey 1 (some .long)]
def wsL_law0_r18 : List Cond := [Cond.methodLink RX2 81 yX2_allGifts, Cond.instanceMethod yX2_allGifts, Cond.selects RX2 yX2_allGifts yX2_allGifts, Cond.code yX2_allGifts cX2_allGifts 1 (some .int), Cond.methodLink RL 126 yX4_givenTo, Cond.instanceMethod yX4_givenTo, Cond.selects RX4 yX4_givenTo yX4_givenTo, Cond.code yX4_givenTo cX4_givenTo 3 (some .int), Cond.methodLink RX4 130 yX4_bests, Cond.instanceMethod yX4_bests, Cond.selects RX4 yX4_bests yX4_bests, Cond.code yX4_bests cX4_bests 6 (some .int), Cond.methodLink RX4 123 yX4_lays, Cond.instanceMethod yX4_lays, Cond.selects RX4 yX4_lays yX4_lays, Cond.code yX4_lays cX4_lays 2 none, Cond.methodLink RX4 116 yX4_weighed, Cond.instanceMethod yX4_weighed, Cond.selects RX4 yX4_weighed yX4_weighed, Cond.code yX4_weighed cX4_weighed 7 (some .int), Cond.methodLink RX4 113 yX4_bared, Cond.instanceMethod yX4_bared, Cond.selects RX4 yX4_bared yX4_bared, Cond.code yX4_bared cX4_bared 5 (some .int)]
def wsL_law0_r19 : List Cond := [Cond.methodLink RX4 126 yX4_leastWhole, Cond.instanceMethod yX4_leastWhole, Cond.selects RX4 yX4_leastWhole yX4_leastWhole, Cond.code yX4_leastWhole cX4_leastWhole 7 (some .int), Cond.methodLink RX4 119 yX4_fits, Cond.instanceMethod yX4_fits, Cond.selects RX4 yX4_fits yX4_fits, Cond.code yX4_fits cX4_fits 5 (some .boolean), Cond.methodLink RL 127 yL_bare, Cond.static yL_bare, Cond.codeWith yL_bare cL_bare 4 (some .int) [(0, 9, 12, 13)], Cond.methodLink RL 56 yX3_bare, Cond.instanceMethod yX3_bare, Cond.selects RX3 yX3_bare yX3_bare, Cond.code yX3_bare cX3_bare 3 (some .int), Cond.instanceMethod yX2_givenSet, Cond.selects RX2 yX2_givenSet yX2_givenSet, Cond.code yX2_givenSet cX2_givenSet 4 (some .int), Cond.methodLink RX2 89 yX2_takerOf, Cond.methodLink RL 129 yX4_bare, Cond.instanceMethod yX4_bare, Cond.selects RX4 yX4_bare yX4_bare, Cond.code yX4_bare cX4_bare 2 (some .int), Cond.methodLink RX4 133 yX4_setOf]
def wsL_law0_r20 : List Cond := [Cond.instanceMethod yX4_setOf, Cond.selects RX4 yX4_setOf yX4_setOf, Cond.code yX4_setOf cX4_setOf 4 (some .int), Cond.methodLink RL 130 yL_weighted, Cond.static yL_weighted, Cond.codeWith yL_weighted cL_weighted 4 (some .int) [(0, 9, 12, 13)], Cond.methodLink RL 59 yX3_weighted, Cond.instanceMethod yX3_weighted, Cond.selects RX3 yX3_weighted yX3_weighted, Cond.code yX3_weighted cX3_weighted 3 (some .int), Cond.methodLink RL 132 yX4_weighted, Cond.instanceMethod yX4_weighted, Cond.selects RX4 yX4_weighted yX4_weighted, Cond.code yX4_weighted cX4_weighted 2 (some .int), Cond.methodLink RL 133 yX3_whole, Cond.instanceMethod yX3_whole, Cond.selects RX3 yX3_whole yX3_whole, Cond.code yX3_whole cX3_whole 1 (some .int), Cond.instanceMethod yX2_bestWhole, Cond.selects RX2 yX2_bestWhole yX2_bestWhole, Cond.code yX2_bestWhole cX2_bestWhole 1 (some .int), Cond.methodLink RL 136 yX4_whole, Cond.instanceMethod yX4_whole, Cond.selects RX4 yX4_whole yX4_whole]
def wsL_law0_r21 : List Cond := [Cond.code yX4_whole cX4_whole 1 (some .int), Cond.methodLink RX4 136 yX4_wholes, Cond.instanceMethod yX4_wholes, Cond.selects RX4 yX4_wholes yX4_wholes, Cond.code yX4_wholes cX4_wholes 1 (some .int), Cond.methodLink RL 137 yX3_wholeByTrying, Cond.instanceMethod yX3_wholeByTrying, Cond.selects RX3 yX3_wholeByTrying yX3_wholeByTrying, Cond.code yX3_wholeByTrying cX3_wholeByTrying 1 (some .int), Cond.instanceMethod yX2_triedWhole, Cond.selects RX2 yX2_triedWhole yX2_triedWhole, Cond.code yX2_triedWhole cX2_triedWhole 3 (some .int), Cond.methodLink RX2 92 yX2_tryFrom, Cond.static yX2_tryFrom, Cond.code yX2_tryFrom cX2_tryFrom 8 (some .int), Cond.methodLink RL 140 yX4_wholeByTrying, Cond.instanceMethod yX4_wholeByTrying, Cond.selects RX4 yX4_wholeByTrying yX4_wholeByTrying, Cond.code yX4_wholeByTrying cX4_wholeByTrying 1 (some .int), Cond.methodLink RL 141 yL_worth, Cond.static yL_worth, Cond.codeWith yL_worth cL_worth 4 (some .int) [(0, 9, 12, 13)], Cond.methodLink RL 62 yX3_worth, Cond.instanceMethod yX3_worth]
def wsL_law0_r22 : List Cond := [Cond.selects RX3 yX3_worth yX3_worth, Cond.code yX3_worth cX3_worth 2 (some .int), Cond.instanceMethod yX2_wholeWithout, Cond.selects RX2 yX2_wholeWithout yX2_wholeWithout, Cond.code yX2_wholeWithout cX2_wholeWithout 2 (some .int), Cond.methodLink RL 143 yX4_worth, Cond.instanceMethod yX4_worth, Cond.selects RX4 yX4_worth yX4_worth, Cond.code yX4_worth cX4_worth 3 (some .int), Cond.methodLink RL 144 yX3_plain, Cond.instanceMethod yX3_plain, Cond.selects RX3 yX3_plain yX3_plain, Cond.code yX3_plain cX3_plain 4 (some .int), Cond.methodLink RL 147 yX4_plain, Cond.instanceMethod yX4_plain, Cond.selects RX4 yX4_plain yX4_plain, Cond.code yX4_plain cX4_plain 1 (some .int), Cond.methodLink RX4 139 yX4_plains, Cond.instanceMethod yX4_plains, Cond.selects RX4 yX4_plains yX4_plains, Cond.code yX4_plains cX4_plains 3 (some .int), Cond.methodLink RL 148 yX3_required, Cond.instanceMethod yX3_required, Cond.selects RX3 yX3_required yX3_required]
def wsL_law0_r23 : List Cond := [Cond.code yX3_required cX3_required 1 (some .int), Cond.methodLink RX3 202 yX3_whole, Cond.methodLink RX3 205 yX3_plain, Cond.methodLink RL 151 yX4_required, Cond.instanceMethod yX4_required, Cond.selects RX4 yX4_required yX4_required, Cond.code yX4_required cX4_required 3 (some .int), Cond.methodLink RL 152 yL_partyBare, Cond.static yL_partyBare, Cond.codeWith yL_partyBare cL_partyBare 4 (some .int) [(0, 9, 12, 13)], Cond.methodLink RL 65 yX3_partyBare, Cond.instanceMethod yX3_partyBare, Cond.selects RX3 yX3_partyBare yX3_partyBare, Cond.code yX3_partyBare cX3_partyBare 2 (some .int), Cond.methodLink RX3 215 yX3_bareOfParty, Cond.instanceMethod yX3_bareOfParty, Cond.selects RX3 yX3_bareOfParty yX3_bareOfParty, Cond.code yX3_bareOfParty cX3_bareOfParty 5 (some .int), Cond.methodLink RL 154 yX4_partyBare, Cond.instanceMethod yX4_partyBare, Cond.selects RX4 yX4_partyBare yX4_partyBare, Cond.code yX4_partyBare cX4_partyBare 2 (some .int), Cond.methodLink RX4 142 yX4_baredOf, Cond.instanceMethod yX4_baredOf]
def wsL_law0_r24 : List Cond := [Cond.selects RX4 yX4_baredOf yX4_baredOf, Cond.code yX4_baredOf cX4_baredOf 4 (some .int), Cond.methodLink RL 155 yX3_tooLarge, Cond.instanceMethod yX3_tooLarge, Cond.selects RX3 yX3_tooLarge yX3_tooLarge, Cond.code yX3_tooLarge cX3_tooLarge 3 (some .int), Cond.methodLink RL 158 yX4_tooLarge, Cond.instanceMethod yX4_tooLarge, Cond.selects RX4 yX4_tooLarge yX4_tooLarge, Cond.code yX4_tooLarge cX4_tooLarge 3 (some .int), Cond.constantLong RX4 145 (4)]
def wsL_law0 : List Cond := (wsL_law0_r1 ++ (wsL_law0_r2 ++ (wsL_law0_r3 ++ (wsL_law0_r4 ++ (wsL_law0_r5 ++ (wsL_law0_r6 ++ (wsL_law0_r7 ++ (wsL_law0_r8 ++ (wsL_law0_r9 ++ (wsL_law0_r10 ++ (wsL_law0_r11 ++ (wsL_law0_r12 ++ (wsL_law0_r13 ++ (wsL_law0_r14 ++ (wsL_law0_r15 ++ (wsL_law0_r16 ++ (wsL_law0_r17 ++ (wsL_law0_r18 ++ (wsL_law0_r19 ++ (wsL_law0_r20 ++ (wsL_law0_r21 ++ (wsL_law0_r22 ++ (wsL_law0_r23 ++ wsL_law0_r24))))))))))))))))))))))) ++ wsX30 ++ wsX40 ++ wsX20 ++ wsX00 ++ wsX10 ++ ([] : List Cond)
def wsL_law : List Cond := wsL_law0 ++ (vx_atS RX3 56 "java/lang/IndexOutOfBoundsException" ["java/lang/RuntimeException", "java/lang/Exception"]).filter goodWord ++ (vx_atS RX3 67 "java/lang/IllegalArgumentException" ["java/lang/RuntimeException", "java/lang/Exception"]).filter goodWord ++ (vx_atS RX3 101 "java/lang/IllegalStateException" ["java/lang/RuntimeException", "java/lang/Exception"]).filter goodWord
abbrev vwCl : List vw_C := [(RX0, TX0, 8), (RX1, TX1, 5), (RX2, TX2, 7), (RX3, TX3, 9), (RX4, TX4, 23)]
end
section
theorem dX0_init_0 : decode cX0_init 0 = .ok (.aload_n 0, 1) := by decide +kernel
theorem dX0_init_1 : decode cX0_init 1 = .ok (.invokespecial 3, 3) := by decide +kernel
theorem dX0_init_4 : decode cX0_init 4 = .ok (.aload_n 0, 1) := by decide +kernel
theorem dX0_init_5 : decode cX0_init 5 = .ok (.iload_n 1, 1) := by decide +kernel
theorem dX0_init_6 : decode cX0_init 6 = .ok (.putfield 9, 3) := by decide +kernel
theorem dX0_init_9 : decode cX0_init 9 = .ok (.aload_n 0, 1) := by decide +kernel
theorem dX0_init_10 : decode cX0_init 10 = .ok (.iload_n 2, 1) := by decide +kernel
theorem dX0_init_11 : decode cX0_init 11 = .ok (.putfield 15, 3) := by decide +kernel
theorem dX0_init_14 : decode cX0_init 14 = .ok (.aload_n 0, 1) := by decide +kernel
theorem dX0_init_15 : decode cX0_init 15 = .ok (.iload_n 3, 1) := by decide +kernel
theorem dX0_init_16 : decode cX0_init 16 = .ok (.putfield 18, 3) := by decide +kernel
theorem dX0_init_19 : decode cX0_init 19 = .ok (.aload_n 0, 1) := by decide +kernel
theorem dX0_init_20 : decode cX0_init 20 = .ok (.iload 4, 2) := by decide +kernel
theorem dX0_init_22 : decode cX0_init 22 = .ok (.putfield 21, 3) := by decide +kernel
theorem dX0_init_25 : decode cX0_init 25 = .ok (.aload_n 0, 1) := by decide +kernel
theorem dX0_init_26 : decode cX0_init 26 = .ok (.iload 5, 2) := by decide +kernel
theorem dX0_init_28 : decode cX0_init 28 = .ok (.putfield 24, 3) := by decide +kernel
theorem dX0_init_31 : decode cX0_init 31 = .ok (.aload_n 0, 1) := by decide +kernel
theorem dX0_init_32 : decode cX0_init 32 = .ok (.iload 6, 2) := by decide +kernel
theorem dX0_init_34 : decode cX0_init 34 = .ok (.putfield 27, 3) := by decide +kernel
theorem dX0_init_37 : decode cX0_init 37 = .ok (.aload_n 0, 1) := by decide +kernel
theorem dX0_init_38 : decode cX0_init 38 = .ok (.iconst 0, 1) := by decide +kernel
theorem dX0_init_39 : decode cX0_init 39 = .ok (.putfield 30, 3) := by decide +kernel
theorem dX0_init_42 : decode cX0_init 42 = .ok (.aload_n 0, 1) := by decide +kernel
theorem dX0_init_43 : decode cX0_init 43 = .ok (.iconst 0, 1) := by decide +kernel
theorem dX0_init_44 : decode cX0_init 44 = .ok (.putfield 33, 3) := by decide +kernel
theorem dX0_init_47 : decode cX0_init 47 = .ok (.return_, 1) := by decide +kernel
set_option maxRecDepth 20000 in
theorem ggX0_amountNow_X3_percentOf : GoodIn wsX0_amountNow wsX3_percentOf := goodIn_r _ [5, 6] (by decide +kernel) (by decide +kernel)
set_option maxRecDepth 20000 in
theorem gX0_amountNow_X3_percentOf_n36 : GoodIn wsX0_amountNow (wsX3_percentOf) := ggX0_amountNow_X3_percentOf
theorem dX0_amountNow_0 : decode cX0_amountNow 0 = .ok (.aload_n 0, 1) := by decide +kernel
theorem dX0_amountNow_1 : decode cX0_amountNow 1 = .ok (.getfield 18, 3) := by decide +kernel
theorem dX0_amountNow_4 : decode cX0_amountNow 4 = .ok (.aload_n 0, 1) := by decide +kernel
theorem dX0_amountNow_5 : decode cX0_amountNow 5 = .ok (.getfield 21, 3) := by decide +kernel
theorem dX0_amountNow_8 : decode cX0_amountNow 8 = .ok (.bipush 40, 2) := by decide +kernel
theorem dX0_amountNow_10 : decode cX0_amountNow 10 = .ok (.invokestatic 36, 3) := by decide +kernel
theorem dX0_amountNow_13 : decode cX0_amountNow 13 = .ok (.iadd, 1) := by decide +kernel
theorem dX0_amountNow_14 : decode cX0_amountNow 14 = .ok (.ireturn, 1) := by decide +kernel
theorem dX1_init_0 : decode cX1_init 0 = .ok (.aload_n 0, 1) := by decide +kernel
theorem dX1_init_1 : decode cX1_init 1 = .ok (.invokespecial 3, 3) := by decide +kernel
theorem dX1_init_4 : decode cX1_init 4 = .ok (.aload_n 0, 1) := by decide +kernel
theorem dX1_init_5 : decode cX1_init 5 = .ok (.iload_n 1, 1) := by decide +kernel
theorem dX1_init_6 : decode cX1_init 6 = .ok (.putfield 9, 3) := by decide +kernel
theorem dX1_init_9 : decode cX1_init 9 = .ok (.aload_n 0, 1) := by decide +kernel
theorem dX1_init_10 : decode cX1_init 10 = .ok (.iload_n 2, 1) := by decide +kernel
theorem dX1_init_11 : decode cX1_init 11 = .ok (.putfield 15, 3) := by decide +kernel
theorem dX1_init_14 : decode cX1_init 14 = .ok (.aload_n 0, 1) := by decide +kernel
theorem dX1_init_15 : decode cX1_init 15 = .ok (.iload_n 3, 1) := by decide +kernel
theorem dX1_init_16 : decode cX1_init 16 = .ok (.putfield 18, 3) := by decide +kernel
theorem dX1_init_19 : decode cX1_init 19 = .ok (.aload_n 0, 1) := by decide +kernel
theorem dX1_init_20 : decode cX1_init 20 = .ok (.iload 4, 2) := by decide +kernel
theorem dX1_init_22 : decode cX1_init 22 = .ok (.putfield 21, 3) := by decide +kernel
theorem dX1_init_25 : decode cX1_init 25 = .ok (.aload_n 0, 1) := by decide +kernel
theorem dX1_init_26 : decode cX1_init 26 = .ok (.iload 5, 2) := by decide +kernel
theorem dX1_init_28 : decode cX1_init 28 = .ok (.putfield 24, 3) := by decide +kernel
theorem dX1_init_31 : decode cX1_init 31 = .ok (.return_, 1) := by decide +kernel
set_option maxRecDepth 20000 in
theorem ggX1_valueFor_X3_percentOf : GoodIn wsX1_valueFor wsX3_percentOf := goodIn_r _ [7, 8] (by decide +kernel) (by decide +kernel)
set_option maxRecDepth 20000 in
theorem gX1_valueFor_X3_percentOf_n27 : GoodIn wsX1_valueFor (wsX3_percentOf) := ggX1_valueFor_X3_percentOf
theorem dX1_valueFor_0 : decode cX1_valueFor 0 = .ok (.aload_n 0, 1) := by decide +kernel
theorem dX1_valueFor_1 : decode cX1_valueFor 1 = .ok (.getfield 9, 3) := by decide +kernel
theorem dX1_valueFor_4 : decode cX1_valueFor 4 = .ok (.bipush 100, 2) := by decide +kernel
theorem dX1_valueFor_6 : decode cX1_valueFor 6 = .ok (.aload_n 0, 1) := by decide +kernel
theorem dX1_valueFor_7 : decode cX1_valueFor 7 = .ok (.getfield 15, 3) := by decide +kernel
theorem dX1_valueFor_10 : decode cX1_valueFor 10 = .ok (.isub, 1) := by decide +kernel
theorem dX1_valueFor_11 : decode cX1_valueFor 11 = .ok (.invokestatic 27, 3) := by decide +kernel
theorem dX1_valueFor_14 : decode cX1_valueFor 14 = .ok (.istore_n 2, 1) := by decide +kernel
theorem dX1_valueFor_15 : decode cX1_valueFor 15 = .ok (.aload_n 0, 1) := by decide +kernel
theorem dX1_valueFor_16 : decode cX1_valueFor 16 = .ok (.getfield 18, 3) := by decide +kernel
theorem dX1_valueFor_19 : decode cX1_valueFor 19 = .ok (.aload_n 1, 1) := by decide +kernel
theorem dX1_valueFor_20 : decode cX1_valueFor 20 = .ok (.getfield 31, 3) := by decide +kernel
theorem dX1_valueFor_23 : decode cX1_valueFor 23 = .ok (.if_icmp .eq 10, 3) := by decide +kernel
theorem dX1_valueFor_26 : decode cX1_valueFor 26 = .ok (.iload_n 2, 1) := by decide +kernel
theorem dX1_valueFor_27 : decode cX1_valueFor 27 = .ok (.bipush 92, 2) := by decide +kernel
theorem dX1_valueFor_29 : decode cX1_valueFor 29 = .ok (.invokestatic 27, 3) := by decide +kernel
theorem dX1_valueFor_32 : decode cX1_valueFor 32 = .ok (.istore_n 2, 1) := by decide +kernel
theorem dX1_valueFor_33 : decode cX1_valueFor 33 = .ok (.aload_n 1, 1) := by decide +kernel
theorem dX1_valueFor_34 : decode cX1_valueFor 34 = .ok (.getfield 34, 3) := by decide +kernel
theorem dX1_valueFor_37 : decode cX1_valueFor 37 = .ok (.ifCond .le 30, 3) := by decide +kernel
theorem dX1_valueFor_40 : decode cX1_valueFor 40 = .ok (.aload_n 0, 1) := by decide +kernel
theorem dX1_valueFor_41 : decode cX1_valueFor 41 = .ok (.getfield 21, 3) := by decide +kernel
theorem dX1_valueFor_44 : decode cX1_valueFor 44 = .ok (.aload_n 1, 1) := by decide +kernel
theorem dX1_valueFor_45 : decode cX1_valueFor 45 = .ok (.getfield 34, 3) := by decide +kernel
theorem dX1_valueFor_48 : decode cX1_valueFor 48 = .ok (.if_icmp .ge 19, 3) := by decide +kernel
theorem dX1_valueFor_51 : decode cX1_valueFor 51 = .ok (.iload_n 2, 1) := by decide +kernel
theorem dX1_valueFor_52 : decode cX1_valueFor 52 = .ok (.i2l, 1) := by decide +kernel
theorem dX1_valueFor_53 : decode cX1_valueFor 53 = .ok (.aload_n 0, 1) := by decide +kernel
theorem dX1_valueFor_54 : decode cX1_valueFor 54 = .ok (.getfield 21, 3) := by decide +kernel
theorem dX1_valueFor_57 : decode cX1_valueFor 57 = .ok (.i2l, 1) := by decide +kernel
theorem dX1_valueFor_58 : decode cX1_valueFor 58 = .ok (.lmul, 1) := by decide +kernel
theorem dX1_valueFor_59 : decode cX1_valueFor 59 = .ok (.aload_n 1, 1) := by decide +kernel
theorem dX1_valueFor_60 : decode cX1_valueFor 60 = .ok (.getfield 34, 3) := by decide +kernel
theorem dX1_valueFor_63 : decode cX1_valueFor 63 = .ok (.i2l, 1) := by decide +kernel
theorem dX1_valueFor_64 : decode cX1_valueFor 64 = .ok (.ldiv, 1) := by decide +kernel
theorem dX1_valueFor_65 : decode cX1_valueFor 65 = .ok (.l2i, 1) := by decide +kernel
theorem dX1_valueFor_66 : decode cX1_valueFor 66 = .ok (.istore_n 2, 1) := by decide +kernel
theorem dX1_valueFor_67 : decode cX1_valueFor 67 = .ok (.iload_n 2, 1) := by decide +kernel
theorem dX1_valueFor_68 : decode cX1_valueFor 68 = .ok (.ireturn, 1) := by decide +kernel
theorem dX2_init_0 : decode cX2_init 0 = .ok (.aload_n 0, 1) := by decide +kernel
theorem dX2_init_1 : decode cX2_init 1 = .ok (.invokespecial 5, 3) := by decide +kernel
theorem dX2_init_4 : decode cX2_init 4 = .ok (.aload_n 0, 1) := by decide +kernel
theorem dX2_init_5 : decode cX2_init 5 = .ok (.bipush 8, 2) := by decide +kernel
theorem dX2_init_7 : decode cX2_init 7 = .ok (.newarray .int, 2) := by decide +kernel
theorem dX2_init_9 : decode cX2_init 9 = .ok (.putfield 11, 3) := by decide +kernel
theorem dX2_init_12 : decode cX2_init 12 = .ok (.aload_n 0, 1) := by decide +kernel
theorem dX2_init_13 : decode cX2_init 13 = .ok (.sipush 256, 3) := by decide +kernel
theorem dX2_init_16 : decode cX2_init 16 = .ok (.newarray .int, 2) := by decide +kernel
theorem dX2_init_18 : decode cX2_init 18 = .ok (.putfield 15, 3) := by decide +kernel
theorem dX2_init_21 : decode cX2_init 21 = .ok (.aload_n 0, 1) := by decide +kernel
theorem dX2_init_22 : decode cX2_init 22 = .ok (.bipush 8, 2) := by decide +kernel
theorem dX2_init_24 : decode cX2_init 24 = .ok (.newarray .int, 2) := by decide +kernel
theorem dX2_init_26 : decode cX2_init 26 = .ok (.putfield 18, 3) := by decide +kernel
theorem dX2_init_29 : decode cX2_init 29 = .ok (.aload_n 0, 1) := by decide +kernel
theorem dX2_init_30 : decode cX2_init 30 = .ok (.bipush 32, 2) := by decide +kernel
theorem dX2_init_32 : decode cX2_init 32 = .ok (.newarray .long, 2) := by decide +kernel
theorem dX2_init_34 : decode cX2_init 34 = .ok (.putfield 21, 3) := by decide +kernel
theorem dX2_init_37 : decode cX2_init 37 = .ok (.aload_n 0, 1) := by decide +kernel
theorem dX2_init_38 : decode cX2_init 38 = .ok (.bipush 32, 2) := by decide +kernel
theorem dX2_init_40 : decode cX2_init 40 = .ok (.newarray .long, 2) := by decide +kernel
theorem dX2_init_42 : decode cX2_init 42 = .ok (.putfield 25, 3) := by decide +kernel
theorem dX2_init_45 : decode cX2_init 45 = .ok (.return_, 1) := by decide +kernel
theorem dX2_begin_0 : decode cX2_begin 0 = .ok (.aload_n 0, 1) := by decide +kernel
theorem dX2_begin_1 : decode cX2_begin 1 = .ok (.iload_n 1, 1) := by decide +kernel
theorem dX2_begin_2 : decode cX2_begin 2 = .ok (.bipush 8, 2) := by decide +kernel
theorem dX2_begin_4 : decode cX2_begin 4 = .ok (.invokestatic 28, 3) := by decide +kernel
theorem dX2_begin_7 : decode cX2_begin 7 = .ok (.putfield 34, 3) := by decide +kernel
theorem dX2_begin_10 : decode cX2_begin 10 = .ok (.aload_n 0, 1) := by decide +kernel
theorem dX2_begin_11 : decode cX2_begin 11 = .ok (.iload_n 2, 1) := by decide +kernel
theorem dX2_begin_12 : decode cX2_begin 12 = .ok (.iconst 5, 1) := by decide +kernel
theorem dX2_begin_13 : decode cX2_begin 13 = .ok (.invokestatic 28, 3) := by decide +kernel
theorem dX2_begin_16 : decode cX2_begin 16 = .ok (.putfield 38, 3) := by decide +kernel
theorem dX2_begin_19 : decode cX2_begin 19 = .ok (.return_, 1) := by decide +kernel
set_option maxRecDepth 20000 in
theorem ggX2_setUsable_X3_put : GoodIn wsX2_setUsable wsX3_put := goodIn_r _ [4] (by decide +kernel) (by decide +kernel)
set_option maxRecDepth 20000 in
theorem gX2_setUsable_X3_put_n41 : GoodIn wsX2_setUsable (wsX3_put) := ggX2_setUsable_X3_put
theorem dX2_setUsable_0 : decode cX2_setUsable 0 = .ok (.aload_n 0, 1) := by decide +kernel
theorem dX2_setUsable_1 : decode cX2_setUsable 1 = .ok (.getfield 11, 3) := by decide +kernel
theorem dX2_setUsable_4 : decode cX2_setUsable 4 = .ok (.iload_n 1, 1) := by decide +kernel
theorem dX2_setUsable_5 : decode cX2_setUsable 5 = .ok (.iload_n 2, 1) := by decide +kernel
theorem dX2_setUsable_6 : decode cX2_setUsable 6 = .ok (.invokestatic 41, 3) := by decide +kernel
theorem dX2_setUsable_9 : decode cX2_setUsable 9 = .ok (.return_, 1) := by decide +kernel
set_option maxRecDepth 20000 in
theorem ggX2_setWeighted_X3_put : GoodIn wsX2_setWeighted wsX3_put := goodIn_r _ [4] (by decide +kernel) (by decide +kernel)
set_option maxRecDepth 20000 in
theorem gX2_setWeighted_X3_put_n41 : GoodIn wsX2_setWeighted (wsX3_put) := ggX2_setWeighted_X3_put
theorem dX2_setWeighted_0 : decode cX2_setWeighted 0 = .ok (.aload_n 0, 1) := by decide +kernel
theorem dX2_setWeighted_1 : decode cX2_setWeighted 1 = .ok (.getfield 15, 3) := by decide +kernel
theorem dX2_setWeighted_4 : decode cX2_setWeighted 4 = .ok (.iload_n 1, 1) := by decide +kernel
theorem dX2_setWeighted_5 : decode cX2_setWeighted 5 = .ok (.bipush 32, 2) := by decide +kernel
theorem dX2_setWeighted_7 : decode cX2_setWeighted 7 = .ok (.imul, 1) := by decide +kernel
theorem dX2_setWeighted_8 : decode cX2_setWeighted 8 = .ok (.iload_n 2, 1) := by decide +kernel
theorem dX2_setWeighted_9 : decode cX2_setWeighted 9 = .ok (.iadd, 1) := by decide +kernel
theorem dX2_setWeighted_10 : decode cX2_setWeighted 10 = .ok (.iload_n 3, 1) := by decide +kernel
theorem dX2_setWeighted_11 : decode cX2_setWeighted 11 = .ok (.invokestatic 41, 3) := by decide +kernel
theorem dX2_setWeighted_14 : decode cX2_setWeighted 14 = .ok (.return_, 1) := by decide +kernel
set_option maxRecDepth 20000 in
theorem ggX2_weightedWith_X3_at : GoodIn wsX2_weightedWith wsX3_at := goodIn_r _ [4] (by decide +kernel) (by decide +kernel)
set_option maxRecDepth 20000 in
theorem gX2_weightedWith_X3_at_n45 : GoodIn wsX2_weightedWith (wsX3_at) := ggX2_weightedWith_X3_at
theorem dX2_weightedWith_0 : decode cX2_weightedWith 0 = .ok (.aload_n 0, 1) := by decide +kernel
theorem dX2_weightedWith_1 : decode cX2_weightedWith 1 = .ok (.getfield 15, 3) := by decide +kernel
theorem dX2_weightedWith_4 : decode cX2_weightedWith 4 = .ok (.iload_n 1, 1) := by decide +kernel
theorem dX2_weightedWith_5 : decode cX2_weightedWith 5 = .ok (.bipush 32, 2) := by decide +kernel
theorem dX2_weightedWith_7 : decode cX2_weightedWith 7 = .ok (.imul, 1) := by decide +kernel
theorem dX2_weightedWith_8 : decode cX2_weightedWith 8 = .ok (.iload_n 2, 1) := by decide +kernel
theorem dX2_weightedWith_9 : decode cX2_weightedWith 9 = .ok (.iadd, 1) := by decide +kernel
theorem dX2_weightedWith_10 : decode cX2_weightedWith 10 = .ok (.invokestatic 45, 3) := by decide +kernel
theorem dX2_weightedWith_13 : decode cX2_weightedWith 13 = .ok (.ireturn, 1) := by decide +kernel
theorem dX2_digitShift_0 : decode cX2_digitShift 0 = .ok (.iconst 4, 1) := by decide +kernel
theorem dX2_digitShift_1 : decode cX2_digitShift 1 = .ok (.iconst 4, 1) := by decide +kernel
theorem dX2_digitShift_2 : decode cX2_digitShift 2 = .ok (.iload_n 0, 1) := by decide +kernel
theorem dX2_digitShift_3 : decode cX2_digitShift 3 = .ok (.isub, 1) := by decide +kernel
theorem dX2_digitShift_4 : decode cX2_digitShift 4 = .ok (.imul, 1) := by decide +kernel
theorem dX2_digitShift_5 : decode cX2_digitShift 5 = .ok (.ireturn, 1) := by decide +kernel
set_option maxRecDepth 20000 in
theorem ggX2_digitsOf_X3_has : GoodIn wsX2_digitsOf wsX3_has := goodIn_r _ [3] (by decide +kernel) (by decide +kernel)
set_option maxRecDepth 20000 in
theorem gX2_digitsOf_X3_has_n49 : GoodIn wsX2_digitsOf (wsX3_has) := ggX2_digitsOf_X3_has
set_option maxRecDepth 20000 in
theorem ggX2_digitsOf_X2_digitShift : GoodIn wsX2_digitsOf wsX2_digitShift := goodIn_r _ [7] (by decide +kernel) (by decide +kernel)
set_option maxRecDepth 20000 in
theorem gX2_digitsOf_X2_digitShift : GoodIn wsX2_digitsOf (va_wsS RX2 53 yX2_digitShift wsX2_digitShift) := goodIn_app (goodIn_of _ (by decide +kernel)) ggX2_digitsOf_X2_digitShift
theorem dX2_digitsOf_0 : decode cX2_digitsOf 0 = .ok (.lconst 0, 1) := by decide +kernel
theorem dX2_digitsOf_1 : decode cX2_digitsOf 1 = .ok (.lstore_n 2, 1) := by decide +kernel
theorem dX2_digitsOf_2 : decode cX2_digitsOf 2 = .ok (.iconst 0, 1) := by decide +kernel
theorem dX2_digitsOf_3 : decode cX2_digitsOf 3 = .ok (.istore 4, 2) := by decide +kernel
theorem dX2_digitsOf_5 : decode cX2_digitsOf 5 = .ok (.iload 4, 2) := by decide +kernel
theorem dX2_digitsOf_7 : decode cX2_digitsOf 7 = .ok (.iconst 5, 1) := by decide +kernel
theorem dX2_digitsOf_8 : decode cX2_digitsOf 8 = .ok (.if_icmp .ge 29, 3) := by decide +kernel
theorem dX2_digitsOf_11 : decode cX2_digitsOf 11 = .ok (.iload_n 0, 1) := by decide +kernel
theorem dX2_digitsOf_12 : decode cX2_digitsOf 12 = .ok (.iload 4, 2) := by decide +kernel
theorem dX2_digitsOf_14 : decode cX2_digitsOf 14 = .ok (.invokestatic 49, 3) := by decide +kernel
theorem dX2_digitsOf_17 : decode cX2_digitsOf 17 = .ok (.ifCond .eq 14, 3) := by decide +kernel
theorem dX2_digitsOf_20 : decode cX2_digitsOf 20 = .ok (.lload_n 2, 1) := by decide +kernel
theorem dX2_digitsOf_21 : decode cX2_digitsOf 21 = .ok (.iload_n 1, 1) := by decide +kernel
theorem dX2_digitsOf_22 : decode cX2_digitsOf 22 = .ok (.i2l, 1) := by decide +kernel
theorem dX2_digitsOf_23 : decode cX2_digitsOf 23 = .ok (.iload 4, 2) := by decide +kernel
theorem dX2_digitsOf_25 : decode cX2_digitsOf 25 = .ok (.invokestatic 53, 3) := by decide +kernel
theorem dX2_digitsOf_28 : decode cX2_digitsOf 28 = .ok (.lshl, 1) := by decide +kernel
theorem dX2_digitsOf_29 : decode cX2_digitsOf 29 = .ok (.ladd, 1) := by decide +kernel
theorem dX2_digitsOf_30 : decode cX2_digitsOf 30 = .ok (.lstore_n 2, 1) := by decide +kernel
theorem dX2_digitsOf_31 : decode cX2_digitsOf 31 = .ok (.iinc 4 1, 3) := by decide +kernel
theorem dX2_digitsOf_34 : decode cX2_digitsOf 34 = .ok (.goto (-29), 3) := by decide +kernel
theorem dX2_digitsOf_37 : decode cX2_digitsOf 37 = .ok (.lload_n 2, 1) := by decide +kernel
theorem dX2_digitsOf_38 : decode cX2_digitsOf 38 = .ok (.lreturn, 1) := by decide +kernel
set_option maxRecDepth 20000 in
theorem ggX2_findLeast_X2_digitsOf : GoodIn wsX2_findLeast wsX2_digitsOf := goodIn_r _ [7, 8, 9, 10, 11, 12, 6, 13] (by decide +kernel) (by decide +kernel)
set_option maxRecDepth 20000 in
theorem gX2_findLeast_X2_digitsOf : GoodIn wsX2_findLeast (va_wsS RX2 57 yX2_digitsOf wsX2_digitsOf) := goodIn_app (goodIn_of _ (by decide +kernel)) ggX2_findLeast_X2_digitsOf
set_option maxRecDepth 20000 in
theorem ggX2_findLeast_X2_fillPrices : GoodIn wsX2_findLeast wsX2_fillPrices := goodIn_r _ [17, 18, 19, 20, 21, 6, 22, 23, 24, 9, 25, 4, 5, 7, 8, 10, 11, 12, 13, 42, 43, 44, 45, 46, 47, 48] (by decide +kernel) (by decide +kernel)
set_option maxRecDepth 20000 in
theorem gX2_findLeast_X2_fillPrices : GoodIn wsX2_findLeast (wsV RX2 61 RX2 yX2_fillPrices wsX2_fillPrices) := goodIn_app (goodIn_of _ (by decide +kernel)) ggX2_findLeast_X2_fillPrices
set_option maxRecDepth 20000 in
theorem ggX2_findLeast_X3_at : GoodIn wsX2_findLeast wsX3_at := goodIn_r _ [25] (by decide +kernel) (by decide +kernel)
set_option maxRecDepth 20000 in
theorem gX2_findLeast_X3_at_n45 : GoodIn wsX2_findLeast (wsX3_at) := ggX2_findLeast_X3_at
set_option maxRecDepth 20000 in
theorem ggX2_findLeast_X2_leastOf : GoodIn wsX2_findLeast wsX2_leastOf := goodIn_r _ [29, 30, 31, 32, 33, 34, 35, 36, 6, 37, 18, 38, 39, 40, 41, 1, 42, 43, 44, 45, 46, 47, 48] (by decide +kernel) (by decide +kernel)
set_option maxRecDepth 20000 in
theorem gX2_findLeast_X2_leastOf : GoodIn wsX2_findLeast (wsV RX2 65 RX2 yX2_leastOf wsX2_leastOf) := goodIn_app (goodIn_of _ (by decide +kernel)) ggX2_findLeast_X2_leastOf
theorem dX2_findLeast_0 : decode cX2_findLeast 0 = .ok (.iconst 0, 1) := by decide +kernel
theorem dX2_findLeast_1 : decode cX2_findLeast 1 = .ok (.istore_n 1, 1) := by decide +kernel
theorem dX2_findLeast_2 : decode cX2_findLeast 2 = .ok (.iload_n 1, 1) := by decide +kernel
theorem dX2_findLeast_3 : decode cX2_findLeast 3 = .ok (.aload_n 0, 1) := by decide +kernel
theorem dX2_findLeast_4 : decode cX2_findLeast 4 = .ok (.getfield 25, 3) := by decide +kernel
theorem dX2_findLeast_7 : decode cX2_findLeast 7 = .ok (.arraylength, 1) := by decide +kernel
theorem dX2_findLeast_8 : decode cX2_findLeast 8 = .ok (.if_icmp .ge 21, 3) := by decide +kernel
theorem dX2_findLeast_11 : decode cX2_findLeast 11 = .ok (.aload_n 0, 1) := by decide +kernel
theorem dX2_findLeast_12 : decode cX2_findLeast 12 = .ok (.getfield 25, 3) := by decide +kernel
theorem dX2_findLeast_15 : decode cX2_findLeast 15 = .ok (.iload_n 1, 1) := by decide +kernel
theorem dX2_findLeast_16 : decode cX2_findLeast 16 = .ok (.iload_n 1, 1) := by decide +kernel
theorem dX2_findLeast_17 : decode cX2_findLeast 17 = .ok (.bipush 8, 2) := by decide +kernel
theorem dX2_findLeast_19 : decode cX2_findLeast 19 = .ok (.invokestatic 57, 3) := by decide +kernel
theorem dX2_findLeast_22 : decode cX2_findLeast 22 = .ok (.lastore, 1) := by decide +kernel
theorem dX2_findLeast_23 : decode cX2_findLeast 23 = .ok (.iinc 1 1, 3) := by decide +kernel
theorem dX2_findLeast_26 : decode cX2_findLeast 26 = .ok (.goto (-24), 3) := by decide +kernel
theorem dX2_findLeast_29 : decode cX2_findLeast 29 = .ok (.iconst 0, 1) := by decide +kernel
theorem dX2_findLeast_30 : decode cX2_findLeast 30 = .ok (.istore_n 1, 1) := by decide +kernel
theorem dX2_findLeast_31 : decode cX2_findLeast 31 = .ok (.iload_n 1, 1) := by decide +kernel
theorem dX2_findLeast_32 : decode cX2_findLeast 32 = .ok (.aload_n 0, 1) := by decide +kernel
theorem dX2_findLeast_33 : decode cX2_findLeast 33 = .ok (.getfield 34, 3) := by decide +kernel
theorem dX2_findLeast_36 : decode cX2_findLeast 36 = .ok (.if_icmp .ge 51, 3) := by decide +kernel
theorem dX2_findLeast_39 : decode cX2_findLeast 39 = .ok (.aload_n 0, 1) := by decide +kernel
theorem dX2_findLeast_40 : decode cX2_findLeast 40 = .ok (.iload_n 1, 1) := by decide +kernel
theorem dX2_findLeast_41 : decode cX2_findLeast 41 = .ok (.invokevirtual 61, 3) := by decide +kernel
theorem dX2_findLeast_44 : decode cX2_findLeast 44 = .ok (.aload_n 0, 1) := by decide +kernel
theorem dX2_findLeast_45 : decode cX2_findLeast 45 = .ok (.getfield 25, 3) := by decide +kernel
theorem dX2_findLeast_48 : decode cX2_findLeast 48 = .ok (.arraylength, 1) := by decide +kernel
theorem dX2_findLeast_49 : decode cX2_findLeast 49 = .ok (.iconst 1, 1) := by decide +kernel
theorem dX2_findLeast_50 : decode cX2_findLeast 50 = .ok (.isub, 1) := by decide +kernel
theorem dX2_findLeast_51 : decode cX2_findLeast 51 = .ok (.istore_n 2, 1) := by decide +kernel
theorem dX2_findLeast_52 : decode cX2_findLeast 52 = .ok (.iload_n 2, 1) := by decide +kernel
theorem dX2_findLeast_53 : decode cX2_findLeast 53 = .ok (.ifCond .lt 28, 3) := by decide +kernel
theorem dX2_findLeast_56 : decode cX2_findLeast 56 = .ok (.aload_n 0, 1) := by decide +kernel
theorem dX2_findLeast_57 : decode cX2_findLeast 57 = .ok (.getfield 25, 3) := by decide +kernel
theorem dX2_findLeast_60 : decode cX2_findLeast 60 = .ok (.iload_n 2, 1) := by decide +kernel
theorem dX2_findLeast_61 : decode cX2_findLeast 61 = .ok (.aload_n 0, 1) := by decide +kernel
theorem dX2_findLeast_62 : decode cX2_findLeast 62 = .ok (.iload_n 2, 1) := by decide +kernel
theorem dX2_findLeast_63 : decode cX2_findLeast 63 = .ok (.aload_n 0, 1) := by decide +kernel
theorem dX2_findLeast_64 : decode cX2_findLeast 64 = .ok (.getfield 11, 3) := by decide +kernel
theorem dX2_findLeast_67 : decode cX2_findLeast 67 = .ok (.iload_n 1, 1) := by decide +kernel
theorem dX2_findLeast_68 : decode cX2_findLeast 68 = .ok (.invokestatic 45, 3) := by decide +kernel
theorem dX2_findLeast_71 : decode cX2_findLeast 71 = .ok (.invokevirtual 65, 3) := by decide +kernel
theorem dX2_findLeast_74 : decode cX2_findLeast 74 = .ok (.lastore, 1) := by decide +kernel
theorem dX2_findLeast_75 : decode cX2_findLeast 75 = .ok (.iinc 2 (-1), 3) := by decide +kernel
theorem dX2_findLeast_78 : decode cX2_findLeast 78 = .ok (.goto (-26), 3) := by decide +kernel
theorem dX2_findLeast_81 : decode cX2_findLeast 81 = .ok (.iinc 1 1, 3) := by decide +kernel
theorem dX2_findLeast_84 : decode cX2_findLeast 84 = .ok (.goto (-53), 3) := by decide +kernel
theorem dX2_findLeast_87 : decode cX2_findLeast 87 = .ok (.return_, 1) := by decide +kernel
set_option maxRecDepth 20000 in
theorem ggX2_fillPrices_X2_weightedWith : GoodIn wsX2_fillPrices wsX2_weightedWith := goodIn_r _ [6, 7, 8, 9, 10, 19, 20, 21, 22, 23, 24, 25] (by decide +kernel) (by decide +kernel)
set_option maxRecDepth 20000 in
theorem gX2_fillPrices_X2_weightedWith : GoodIn wsX2_fillPrices (wsV RX2 68 RX2 yX2_weightedWith wsX2_weightedWith) := goodIn_app (goodIn_of _ (by decide +kernel)) ggX2_fillPrices_X2_weightedWith
set_option maxRecDepth 20000 in
theorem ggX2_fillPrices_X2_digitsOf : GoodIn wsX2_fillPrices wsX2_digitsOf := goodIn_r _ [13, 14, 9, 15, 16, 17, 5, 18] (by decide +kernel) (by decide +kernel)
set_option maxRecDepth 20000 in
theorem gX2_fillPrices_X2_digitsOf : GoodIn wsX2_fillPrices (va_wsS RX2 57 yX2_digitsOf wsX2_digitsOf) := goodIn_app (goodIn_of _ (by decide +kernel)) ggX2_fillPrices_X2_digitsOf
theorem dX2_fillPrices_0 : decode cX2_fillPrices 0 = .ok (.iconst 0, 1) := by decide +kernel
theorem dX2_fillPrices_1 : decode cX2_fillPrices 1 = .ok (.istore_n 2, 1) := by decide +kernel
theorem dX2_fillPrices_2 : decode cX2_fillPrices 2 = .ok (.iload_n 2, 1) := by decide +kernel
theorem dX2_fillPrices_3 : decode cX2_fillPrices 3 = .ok (.aload_n 0, 1) := by decide +kernel
theorem dX2_fillPrices_4 : decode cX2_fillPrices 4 = .ok (.getfield 21, 3) := by decide +kernel
theorem dX2_fillPrices_7 : decode cX2_fillPrices 7 = .ok (.arraylength, 1) := by decide +kernel
theorem dX2_fillPrices_8 : decode cX2_fillPrices 8 = .ok (.if_icmp .ge 31, 3) := by decide +kernel
theorem dX2_fillPrices_11 : decode cX2_fillPrices 11 = .ok (.aload_n 0, 1) := by decide +kernel
theorem dX2_fillPrices_12 : decode cX2_fillPrices 12 = .ok (.getfield 21, 3) := by decide +kernel
theorem dX2_fillPrices_15 : decode cX2_fillPrices 15 = .ok (.iload_n 2, 1) := by decide +kernel
theorem dX2_fillPrices_16 : decode cX2_fillPrices 16 = .ok (.aload_n 0, 1) := by decide +kernel
theorem dX2_fillPrices_17 : decode cX2_fillPrices 17 = .ok (.iload_n 1, 1) := by decide +kernel
theorem dX2_fillPrices_18 : decode cX2_fillPrices 18 = .ok (.iload_n 2, 1) := by decide +kernel
theorem dX2_fillPrices_19 : decode cX2_fillPrices 19 = .ok (.invokevirtual 68, 3) := by decide +kernel
theorem dX2_fillPrices_22 : decode cX2_fillPrices 22 = .ok (.i2l, 1) := by decide +kernel
theorem dX2_fillPrices_23 : decode cX2_fillPrices 23 = .ok (.bipush 20, 2) := by decide +kernel
theorem dX2_fillPrices_25 : decode cX2_fillPrices 25 = .ok (.lshl, 1) := by decide +kernel
theorem dX2_fillPrices_26 : decode cX2_fillPrices 26 = .ok (.iload_n 2, 1) := by decide +kernel
theorem dX2_fillPrices_27 : decode cX2_fillPrices 27 = .ok (.iload_n 1, 1) := by decide +kernel
theorem dX2_fillPrices_28 : decode cX2_fillPrices 28 = .ok (.invokestatic 57, 3) := by decide +kernel
theorem dX2_fillPrices_31 : decode cX2_fillPrices 31 = .ok (.ladd, 1) := by decide +kernel
theorem dX2_fillPrices_32 : decode cX2_fillPrices 32 = .ok (.lastore, 1) := by decide +kernel
theorem dX2_fillPrices_33 : decode cX2_fillPrices 33 = .ok (.iinc 2 1, 3) := by decide +kernel
theorem dX2_fillPrices_36 : decode cX2_fillPrices 36 = .ok (.goto (-34), 3) := by decide +kernel
theorem dX2_fillPrices_39 : decode cX2_fillPrices 39 = .ok (.return_, 1) := by decide +kernel
set_option maxRecDepth 20000 in
theorem ggX2_leastOf_X2_priceOf : GoodIn wsX2_leastOf wsX2_priceOf := goodIn_r _ [9, 10, 16, 17, 18, 19, 20, 21, 22] (by decide +kernel) (by decide +kernel)
set_option maxRecDepth 20000 in
theorem gX2_leastOf_X2_priceOf : GoodIn wsX2_leastOf (wsV RX2 71 RX2 yX2_priceOf wsX2_priceOf) := goodIn_app (goodIn_of _ (by decide +kernel)) ggX2_leastOf_X2_priceOf
set_option maxRecDepth 20000 in
theorem ggX2_leastOf_X2_leastKey : GoodIn wsX2_leastOf wsX2_leastKey := goodIn_r _ [14, 15, 16, 17, 18, 19, 20, 21, 22] (by decide +kernel) (by decide +kernel)
set_option maxRecDepth 20000 in
theorem gX2_leastOf_X2_leastKey : GoodIn wsX2_leastOf (wsV RX2 75 RX2 yX2_leastKey wsX2_leastKey) := goodIn_app (goodIn_of _ (by decide +kernel)) ggX2_leastOf_X2_leastKey
theorem dX2_leastOf_0 : decode cX2_leastOf 0 = .ok (.aload_n 0, 1) := by decide +kernel
theorem dX2_leastOf_1 : decode cX2_leastOf 1 = .ok (.iconst 0, 1) := by decide +kernel
theorem dX2_leastOf_2 : decode cX2_leastOf 2 = .ok (.invokevirtual 71, 3) := by decide +kernel
theorem dX2_leastOf_5 : decode cX2_leastOf 5 = .ok (.aload_n 0, 1) := by decide +kernel
theorem dX2_leastOf_6 : decode cX2_leastOf 6 = .ok (.iload_n 1, 1) := by decide +kernel
theorem dX2_leastOf_7 : decode cX2_leastOf 7 = .ok (.invokevirtual 75, 3) := by decide +kernel
theorem dX2_leastOf_10 : decode cX2_leastOf 10 = .ok (.ladd, 1) := by decide +kernel
theorem dX2_leastOf_11 : decode cX2_leastOf 11 = .ok (.lstore_n 3, 1) := by decide +kernel
theorem dX2_leastOf_12 : decode cX2_leastOf 12 = .ok (.iconst 1, 1) := by decide +kernel
theorem dX2_leastOf_13 : decode cX2_leastOf 13 = .ok (.istore 5, 2) := by decide +kernel
theorem dX2_leastOf_15 : decode cX2_leastOf 15 = .ok (.iload 5, 2) := by decide +kernel
theorem dX2_leastOf_17 : decode cX2_leastOf 17 = .ok (.iload_n 1, 1) := by decide +kernel
theorem dX2_leastOf_18 : decode cX2_leastOf 18 = .ok (.if_icmp .gt 40, 3) := by decide +kernel
theorem dX2_leastOf_21 : decode cX2_leastOf 21 = .ok (.iload 5, 2) := by decide +kernel
theorem dX2_leastOf_23 : decode cX2_leastOf 23 = .ok (.iload_n 1, 1) := by decide +kernel
theorem dX2_leastOf_24 : decode cX2_leastOf 24 = .ok (.iand, 1) := by decide +kernel
theorem dX2_leastOf_25 : decode cX2_leastOf 25 = .ok (.iload_n 2, 1) := by decide +kernel
theorem dX2_leastOf_26 : decode cX2_leastOf 26 = .ok (.iand, 1) := by decide +kernel
theorem dX2_leastOf_27 : decode cX2_leastOf 27 = .ok (.iload 5, 2) := by decide +kernel
theorem dX2_leastOf_29 : decode cX2_leastOf 29 = .ok (.if_icmp .ne 23, 3) := by decide +kernel
theorem dX2_leastOf_32 : decode cX2_leastOf 32 = .ok (.lload_n 3, 1) := by decide +kernel
theorem dX2_leastOf_33 : decode cX2_leastOf 33 = .ok (.aload_n 0, 1) := by decide +kernel
theorem dX2_leastOf_34 : decode cX2_leastOf 34 = .ok (.iload 5, 2) := by decide +kernel
theorem dX2_leastOf_36 : decode cX2_leastOf 36 = .ok (.invokevirtual 71, 3) := by decide +kernel
theorem dX2_leastOf_39 : decode cX2_leastOf 39 = .ok (.aload_n 0, 1) := by decide +kernel
theorem dX2_leastOf_40 : decode cX2_leastOf 40 = .ok (.iload_n 1, 1) := by decide +kernel
theorem dX2_leastOf_41 : decode cX2_leastOf 41 = .ok (.iload 5, 2) := by decide +kernel
theorem dX2_leastOf_43 : decode cX2_leastOf 43 = .ok (.isub, 1) := by decide +kernel
theorem dX2_leastOf_44 : decode cX2_leastOf 44 = .ok (.invokevirtual 75, 3) := by decide +kernel
theorem dX2_leastOf_47 : decode cX2_leastOf 47 = .ok (.ladd, 1) := by decide +kernel
theorem dX2_leastOf_48 : decode cX2_leastOf 48 = .ok (.invokestatic 78, 3) := by decide +kernel
theorem dX2_leastOf_51 : decode cX2_leastOf 51 = .ok (.lstore_n 3, 1) := by decide +kernel
theorem dX2_leastOf_52 : decode cX2_leastOf 52 = .ok (.iinc 5 1, 3) := by decide +kernel
theorem dX2_leastOf_55 : decode cX2_leastOf 55 = .ok (.goto (-40), 3) := by decide +kernel
theorem dX2_leastOf_58 : decode cX2_leastOf 58 = .ok (.lload_n 3, 1) := by decide +kernel
theorem dX2_leastOf_59 : decode cX2_leastOf 59 = .ok (.lreturn, 1) := by decide +kernel
theorem dX2_priceOf_0 : decode cX2_priceOf 0 = .ok (.iconst 0, 1) := by decide +kernel
theorem dX2_priceOf_1 : decode cX2_priceOf 1 = .ok (.iload_n 1, 1) := by decide +kernel
theorem dX2_priceOf_2 : decode cX2_priceOf 2 = .ok (.if_icmp .gt 21, 3) := by decide +kernel
theorem dX2_priceOf_5 : decode cX2_priceOf 5 = .ok (.iload_n 1, 1) := by decide +kernel
theorem dX2_priceOf_6 : decode cX2_priceOf 6 = .ok (.aload_n 0, 1) := by decide +kernel
theorem dX2_priceOf_7 : decode cX2_priceOf 7 = .ok (.getfield 21, 3) := by decide +kernel
theorem dX2_priceOf_10 : decode cX2_priceOf 10 = .ok (.arraylength, 1) := by decide +kernel
theorem dX2_priceOf_11 : decode cX2_priceOf 11 = .ok (.if_icmp .ge 12, 3) := by decide +kernel
theorem dX2_priceOf_14 : decode cX2_priceOf 14 = .ok (.aload_n 0, 1) := by decide +kernel
theorem dX2_priceOf_15 : decode cX2_priceOf 15 = .ok (.getfield 21, 3) := by decide +kernel
theorem dX2_priceOf_18 : decode cX2_priceOf 18 = .ok (.iload_n 1, 1) := by decide +kernel
theorem dX2_priceOf_19 : decode cX2_priceOf 19 = .ok (.laload, 1) := by decide +kernel
theorem dX2_priceOf_20 : decode cX2_priceOf 20 = .ok (.goto 4, 3) := by decide +kernel
theorem dX2_priceOf_23 : decode cX2_priceOf 23 = .ok (.lconst 0, 1) := by decide +kernel
theorem dX2_priceOf_24 : decode cX2_priceOf 24 = .ok (.lreturn, 1) := by decide +kernel
theorem dX2_leastKey_0 : decode cX2_leastKey 0 = .ok (.iconst 0, 1) := by decide +kernel
theorem dX2_leastKey_1 : decode cX2_leastKey 1 = .ok (.iload_n 1, 1) := by decide +kernel
theorem dX2_leastKey_2 : decode cX2_leastKey 2 = .ok (.if_icmp .gt 21, 3) := by decide +kernel
theorem dX2_leastKey_5 : decode cX2_leastKey 5 = .ok (.iload_n 1, 1) := by decide +kernel
theorem dX2_leastKey_6 : decode cX2_leastKey 6 = .ok (.aload_n 0, 1) := by decide +kernel
theorem dX2_leastKey_7 : decode cX2_leastKey 7 = .ok (.getfield 25, 3) := by decide +kernel
theorem dX2_leastKey_10 : decode cX2_leastKey 10 = .ok (.arraylength, 1) := by decide +kernel
theorem dX2_leastKey_11 : decode cX2_leastKey 11 = .ok (.if_icmp .ge 12, 3) := by decide +kernel
theorem dX2_leastKey_14 : decode cX2_leastKey 14 = .ok (.aload_n 0, 1) := by decide +kernel
theorem dX2_leastKey_15 : decode cX2_leastKey 15 = .ok (.getfield 25, 3) := by decide +kernel
theorem dX2_leastKey_18 : decode cX2_leastKey 18 = .ok (.iload_n 1, 1) := by decide +kernel
theorem dX2_leastKey_19 : decode cX2_leastKey 19 = .ok (.laload, 1) := by decide +kernel
theorem dX2_leastKey_20 : decode cX2_leastKey 20 = .ok (.goto 4, 3) := by decide +kernel
theorem dX2_leastKey_23 : decode cX2_leastKey 23 = .ok (.lconst 0, 1) := by decide +kernel
theorem dX2_leastKey_24 : decode cX2_leastKey 24 = .ok (.lreturn, 1) := by decide +kernel
theorem dX2_allGifts_0 : decode cX2_allGifts 0 = .ok (.iconst 1, 1) := by decide +kernel
theorem dX2_allGifts_1 : decode cX2_allGifts 1 = .ok (.aload_n 0, 1) := by decide +kernel
theorem dX2_allGifts_2 : decode cX2_allGifts 2 = .ok (.getfield 38, 3) := by decide +kernel
theorem dX2_allGifts_5 : decode cX2_allGifts 5 = .ok (.ishl, 1) := by decide +kernel
theorem dX2_allGifts_6 : decode cX2_allGifts 6 = .ok (.iconst 1, 1) := by decide +kernel
theorem dX2_allGifts_7 : decode cX2_allGifts 7 = .ok (.isub, 1) := by decide +kernel
theorem dX2_allGifts_8 : decode cX2_allGifts 8 = .ok (.ireturn, 1) := by decide +kernel
set_option maxRecDepth 20000 in
theorem ggX2_bestKey_X2_allGifts : GoodIn wsX2_bestKey wsX2_allGifts := goodIn_r _ [5, 6, 12, 13, 14, 15, 16, 17, 18] (by decide +kernel) (by decide +kernel)
set_option maxRecDepth 20000 in
theorem gX2_bestKey_X2_allGifts : GoodIn wsX2_bestKey (wsV RX2 81 RX2 yX2_allGifts wsX2_allGifts) := goodIn_app (goodIn_of _ (by decide +kernel)) ggX2_bestKey_X2_allGifts
set_option maxRecDepth 20000 in
theorem ggX2_bestKey_X2_leastKey : GoodIn wsX2_bestKey wsX2_leastKey := goodIn_r _ [10, 11, 12, 13, 14, 15, 16, 17, 18] (by decide +kernel) (by decide +kernel)
set_option maxRecDepth 20000 in
theorem gX2_bestKey_X2_leastKey : GoodIn wsX2_bestKey (wsV RX2 75 RX2 yX2_leastKey wsX2_leastKey) := goodIn_app (goodIn_of _ (by decide +kernel)) ggX2_bestKey_X2_leastKey
theorem dX2_bestKey_0 : decode cX2_bestKey 0 = .ok (.aload_n 0, 1) := by decide +kernel
theorem dX2_bestKey_1 : decode cX2_bestKey 1 = .ok (.aload_n 0, 1) := by decide +kernel
theorem dX2_bestKey_2 : decode cX2_bestKey 2 = .ok (.invokevirtual 81, 3) := by decide +kernel
theorem dX2_bestKey_5 : decode cX2_bestKey 5 = .ok (.invokevirtual 75, 3) := by decide +kernel
theorem dX2_bestKey_8 : decode cX2_bestKey 8 = .ok (.lreturn, 1) := by decide +kernel
set_option maxRecDepth 20000 in
theorem ggX2_bestWhole_X2_bestKey : GoodIn wsX2_bestWhole wsX2_bestKey := goodIn_r _ [5, 6, 7, 8, 4, 9, 10, 11, 12, 13, 14, 15, 16, 17, 18, 19, 20, 21, 22] (by decide +kernel) (by decide +kernel)
set_option maxRecDepth 20000 in
theorem gX2_bestWhole_X2_bestKey : GoodIn wsX2_bestWhole (wsV RX2 85 RX2 yX2_bestKey wsX2_bestKey) := goodIn_app (goodIn_of _ (by decide +kernel)) ggX2_bestWhole_X2_bestKey
theorem dX2_bestWhole_0 : decode cX2_bestWhole 0 = .ok (.aload_n 0, 1) := by decide +kernel
theorem dX2_bestWhole_1 : decode cX2_bestWhole 1 = .ok (.invokevirtual 85, 3) := by decide +kernel
theorem dX2_bestWhole_4 : decode cX2_bestWhole 4 = .ok (.bipush 20, 2) := by decide +kernel
theorem dX2_bestWhole_6 : decode cX2_bestWhole 6 = .ok (.lshr, 1) := by decide +kernel
theorem dX2_bestWhole_7 : decode cX2_bestWhole 7 = .ok (.l2i, 1) := by decide +kernel
theorem dX2_bestWhole_8 : decode cX2_bestWhole 8 = .ok (.ireturn, 1) := by decide +kernel
set_option maxRecDepth 20000 in
theorem ggX2_wholeWithout_X2_allGifts : GoodIn wsX2_wholeWithout wsX2_allGifts := goodIn_r _ [5, 6, 12, 13, 14, 15, 16, 17, 18] (by decide +kernel) (by decide +kernel)
set_option maxRecDepth 20000 in
theorem gX2_wholeWithout_X2_allGifts : GoodIn wsX2_wholeWithout (wsV RX2 81 RX2 yX2_allGifts wsX2_allGifts) := goodIn_app (goodIn_of _ (by decide +kernel)) ggX2_wholeWithout_X2_allGifts
set_option maxRecDepth 20000 in
theorem ggX2_wholeWithout_X2_leastKey : GoodIn wsX2_wholeWithout wsX2_leastKey := goodIn_r _ [10, 11, 12, 13, 14, 15, 16, 17, 18] (by decide +kernel) (by decide +kernel)
set_option maxRecDepth 20000 in
theorem gX2_wholeWithout_X2_leastKey : GoodIn wsX2_wholeWithout (wsV RX2 75 RX2 yX2_leastKey wsX2_leastKey) := goodIn_app (goodIn_of _ (by decide +kernel)) ggX2_wholeWithout_X2_leastKey
theorem dX2_wholeWithout_0 : decode cX2_wholeWithout 0 = .ok (.aload_n 0, 1) := by decide +kernel
theorem dX2_wholeWithout_1 : decode cX2_wholeWithout 1 = .ok (.aload_n 0, 1) := by decide +kernel
theorem dX2_wholeWithout_2 : decode cX2_wholeWithout 2 = .ok (.invokevirtual 81, 3) := by decide +kernel
theorem dX2_wholeWithout_5 : decode cX2_wholeWithout 5 = .ok (.iconst 1, 1) := by decide +kernel
theorem dX2_wholeWithout_6 : decode cX2_wholeWithout 6 = .ok (.iload_n 1, 1) := by decide +kernel
theorem dX2_wholeWithout_7 : decode cX2_wholeWithout 7 = .ok (.ishl, 1) := by decide +kernel
theorem dX2_wholeWithout_8 : decode cX2_wholeWithout 8 = .ok (.iconst (-1), 1) := by decide +kernel
theorem dX2_wholeWithout_9 : decode cX2_wholeWithout 9 = .ok (.ixor, 1) := by decide +kernel
theorem dX2_wholeWithout_10 : decode cX2_wholeWithout 10 = .ok (.iand, 1) := by decide +kernel
theorem dX2_wholeWithout_11 : decode cX2_wholeWithout 11 = .ok (.invokevirtual 75, 3) := by decide +kernel
theorem dX2_wholeWithout_14 : decode cX2_wholeWithout 14 = .ok (.bipush 20, 2) := by decide +kernel
theorem dX2_wholeWithout_16 : decode cX2_wholeWithout 16 = .ok (.lshr, 1) := by decide +kernel
theorem dX2_wholeWithout_17 : decode cX2_wholeWithout 17 = .ok (.l2i, 1) := by decide +kernel
theorem dX2_wholeWithout_18 : decode cX2_wholeWithout 18 = .ok (.ireturn, 1) := by decide +kernel
set_option maxRecDepth 20000 in
theorem ggX2_takerOf_X2_bestKey : GoodIn wsX2_takerOf wsX2_bestKey := goodIn_r _ [5, 6, 7, 8, 4, 9, 10, 11, 12, 13, 14, 15, 19, 20, 21, 22, 23, 24, 25] (by decide +kernel) (by decide +kernel)
set_option maxRecDepth 20000 in
theorem gX2_takerOf_X2_bestKey : GoodIn wsX2_takerOf (wsV RX2 85 RX2 yX2_bestKey wsX2_bestKey) := goodIn_app (goodIn_of _ (by decide +kernel)) ggX2_takerOf_X2_bestKey
set_option maxRecDepth 20000 in
theorem ggX2_takerOf_X2_digitShift : GoodIn wsX2_takerOf wsX2_digitShift := goodIn_r _ [18] (by decide +kernel) (by decide +kernel)
set_option maxRecDepth 20000 in
theorem gX2_takerOf_X2_digitShift : GoodIn wsX2_takerOf (va_wsS RX2 53 yX2_digitShift wsX2_digitShift) := goodIn_app (goodIn_of _ (by decide +kernel)) ggX2_takerOf_X2_digitShift
theorem dX2_takerOf_0 : decode cX2_takerOf 0 = .ok (.aload_n 0, 1) := by decide +kernel
theorem dX2_takerOf_1 : decode cX2_takerOf 1 = .ok (.invokevirtual 85, 3) := by decide +kernel
theorem dX2_takerOf_4 : decode cX2_takerOf 4 = .ok (.iload_n 1, 1) := by decide +kernel
theorem dX2_takerOf_5 : decode cX2_takerOf 5 = .ok (.invokestatic 53, 3) := by decide +kernel
theorem dX2_takerOf_8 : decode cX2_takerOf 8 = .ok (.lshr, 1) := by decide +kernel
theorem dX2_takerOf_9 : decode cX2_takerOf 9 = .ok (.l2i, 1) := by decide +kernel
theorem dX2_takerOf_10 : decode cX2_takerOf 10 = .ok (.bipush 15, 2) := by decide +kernel
theorem dX2_takerOf_12 : decode cX2_takerOf 12 = .ok (.iand, 1) := by decide +kernel
theorem dX2_takerOf_13 : decode cX2_takerOf 13 = .ok (.istore_n 2, 1) := by decide +kernel
theorem dX2_takerOf_14 : decode cX2_takerOf 14 = .ok (.iload_n 2, 1) := by decide +kernel
theorem dX2_takerOf_15 : decode cX2_takerOf 15 = .ok (.bipush 8, 2) := by decide +kernel
theorem dX2_takerOf_17 : decode cX2_takerOf 17 = .ok (.if_icmp .ne 7, 3) := by decide +kernel
theorem dX2_takerOf_20 : decode cX2_takerOf 20 = .ok (.iconst (-1), 1) := by decide +kernel
theorem dX2_takerOf_21 : decode cX2_takerOf 21 = .ok (.goto 4, 3) := by decide +kernel
theorem dX2_takerOf_24 : decode cX2_takerOf 24 = .ok (.iload_n 2, 1) := by decide +kernel
theorem dX2_takerOf_25 : decode cX2_takerOf 25 = .ok (.ireturn, 1) := by decide +kernel
set_option maxRecDepth 20000 in
theorem ggX2_givenSet_X2_takerOf : GoodIn wsX2_givenSet wsX2_takerOf := goodIn_r _ [6, 7, 8, 9, 5, 10, 11, 12, 13, 14, 1, 15, 16, 17, 18, 19, 20, 21, 22, 23, 24, 25, 26, 27, 28, 29] (by decide +kernel) (by decide +kernel)
set_option maxRecDepth 20000 in
theorem gX2_givenSet_X2_takerOf : GoodIn wsX2_givenSet (wsV RX2 89 RX2 yX2_takerOf wsX2_takerOf) := goodIn_app (goodIn_of _ (by decide +kernel)) ggX2_givenSet_X2_takerOf
theorem dX2_givenSet_0 : decode cX2_givenSet 0 = .ok (.iconst 0, 1) := by decide +kernel
theorem dX2_givenSet_1 : decode cX2_givenSet 1 = .ok (.istore_n 2, 1) := by decide +kernel
theorem dX2_givenSet_2 : decode cX2_givenSet 2 = .ok (.iconst 0, 1) := by decide +kernel
theorem dX2_givenSet_3 : decode cX2_givenSet 3 = .ok (.istore_n 3, 1) := by decide +kernel
theorem dX2_givenSet_4 : decode cX2_givenSet 4 = .ok (.iload_n 3, 1) := by decide +kernel
theorem dX2_givenSet_5 : decode cX2_givenSet 5 = .ok (.aload_n 0, 1) := by decide +kernel
theorem dX2_givenSet_6 : decode cX2_givenSet 6 = .ok (.getfield 38, 3) := by decide +kernel
theorem dX2_givenSet_9 : decode cX2_givenSet 9 = .ok (.if_icmp .ge 24, 3) := by decide +kernel
theorem dX2_givenSet_12 : decode cX2_givenSet 12 = .ok (.aload_n 0, 1) := by decide +kernel
theorem dX2_givenSet_13 : decode cX2_givenSet 13 = .ok (.iload_n 3, 1) := by decide +kernel
theorem dX2_givenSet_14 : decode cX2_givenSet 14 = .ok (.invokevirtual 89, 3) := by decide +kernel
theorem dX2_givenSet_17 : decode cX2_givenSet 17 = .ok (.iload_n 1, 1) := by decide +kernel
theorem dX2_givenSet_18 : decode cX2_givenSet 18 = .ok (.if_icmp .ne 9, 3) := by decide +kernel
theorem dX2_givenSet_21 : decode cX2_givenSet 21 = .ok (.iload_n 2, 1) := by decide +kernel
theorem dX2_givenSet_22 : decode cX2_givenSet 22 = .ok (.iconst 1, 1) := by decide +kernel
theorem dX2_givenSet_23 : decode cX2_givenSet 23 = .ok (.iload_n 3, 1) := by decide +kernel
theorem dX2_givenSet_24 : decode cX2_givenSet 24 = .ok (.ishl, 1) := by decide +kernel
theorem dX2_givenSet_25 : decode cX2_givenSet 25 = .ok (.ior, 1) := by decide +kernel
theorem dX2_givenSet_26 : decode cX2_givenSet 26 = .ok (.istore_n 2, 1) := by decide +kernel
theorem dX2_givenSet_27 : decode cX2_givenSet 27 = .ok (.iinc 3 1, 3) := by decide +kernel
theorem dX2_givenSet_30 : decode cX2_givenSet 30 = .ok (.goto (-26), 3) := by decide +kernel
theorem dX2_givenSet_33 : decode cX2_givenSet 33 = .ok (.iload_n 2, 1) := by decide +kernel
theorem dX2_givenSet_34 : decode cX2_givenSet 34 = .ok (.ireturn, 1) := by decide +kernel
set_option maxRecDepth 20000 in
theorem ggX2_triedWhole_X3_put : GoodIn wsX2_triedWhole wsX3_put := goodIn_r _ [5] (by decide +kernel) (by decide +kernel)
set_option maxRecDepth 20000 in
theorem gX2_triedWhole_X3_put_n41 : GoodIn wsX2_triedWhole (wsX3_put) := ggX2_triedWhole_X3_put
set_option maxRecDepth 20000 in
theorem ggX2_triedWhole_X2_weightedWith : GoodIn wsX2_triedWhole wsX2_weightedWith := goodIn_r _ [10, 11, 12, 4, 13, 25, 26, 27, 28, 29, 30, 31] (by decide +kernel) (by decide +kernel)
set_option maxRecDepth 20000 in
theorem gX2_triedWhole_X2_weightedWith : GoodIn wsX2_triedWhole (wsV RX2 68 RX2 yX2_weightedWith wsX2_weightedWith) := goodIn_app (goodIn_of _ (by decide +kernel)) ggX2_triedWhole_X2_weightedWith
set_option maxRecDepth 20000 in
theorem ggX2_triedWhole_X2_tryFrom : GoodIn wsX2_triedWhole wsX2_tryFrom := goodIn_r _ [16, 17, 1, 18, 2, 19, 20, 21, 22, 14, 15, 9, 12, 4, 13, 23, 24, 6, 7, 8, 10, 11, 3, 5, 25, 26, 27, 28, 29, 30, 31] (by decide +kernel) (by decide +kernel)
set_option maxRecDepth 20000 in
theorem gX2_triedWhole_X2_tryFrom : GoodIn wsX2_triedWhole (va_wsS RX2 92 yX2_tryFrom wsX2_tryFrom) := goodIn_app (goodIn_of _ (by decide +kernel)) ggX2_triedWhole_X2_tryFrom
theorem dX2_triedWhole_0 : decode cX2_triedWhole 0 = .ok (.iconst 0, 1) := by decide +kernel
theorem dX2_triedWhole_1 : decode cX2_triedWhole 1 = .ok (.istore_n 1, 1) := by decide +kernel
theorem dX2_triedWhole_2 : decode cX2_triedWhole 2 = .ok (.iconst 0, 1) := by decide +kernel
theorem dX2_triedWhole_3 : decode cX2_triedWhole 3 = .ok (.istore_n 2, 1) := by decide +kernel
theorem dX2_triedWhole_4 : decode cX2_triedWhole 4 = .ok (.iload_n 2, 1) := by decide +kernel
theorem dX2_triedWhole_5 : decode cX2_triedWhole 5 = .ok (.aload_n 0, 1) := by decide +kernel
theorem dX2_triedWhole_6 : decode cX2_triedWhole 6 = .ok (.getfield 34, 3) := by decide +kernel
theorem dX2_triedWhole_9 : decode cX2_triedWhole 9 = .ok (.if_icmp .ge 27, 3) := by decide +kernel
theorem dX2_triedWhole_12 : decode cX2_triedWhole 12 = .ok (.aload_n 0, 1) := by decide +kernel
theorem dX2_triedWhole_13 : decode cX2_triedWhole 13 = .ok (.getfield 18, 3) := by decide +kernel
theorem dX2_triedWhole_16 : decode cX2_triedWhole 16 = .ok (.iload_n 2, 1) := by decide +kernel
theorem dX2_triedWhole_17 : decode cX2_triedWhole 17 = .ok (.iconst 0, 1) := by decide +kernel
theorem dX2_triedWhole_18 : decode cX2_triedWhole 18 = .ok (.invokestatic 41, 3) := by decide +kernel
theorem dX2_triedWhole_21 : decode cX2_triedWhole 21 = .ok (.iload_n 1, 1) := by decide +kernel
theorem dX2_triedWhole_22 : decode cX2_triedWhole 22 = .ok (.aload_n 0, 1) := by decide +kernel
theorem dX2_triedWhole_23 : decode cX2_triedWhole 23 = .ok (.iload_n 2, 1) := by decide +kernel
theorem dX2_triedWhole_24 : decode cX2_triedWhole 24 = .ok (.iconst 0, 1) := by decide +kernel
theorem dX2_triedWhole_25 : decode cX2_triedWhole 25 = .ok (.invokevirtual 68, 3) := by decide +kernel
theorem dX2_triedWhole_28 : decode cX2_triedWhole 28 = .ok (.iadd, 1) := by decide +kernel
theorem dX2_triedWhole_29 : decode cX2_triedWhole 29 = .ok (.istore_n 1, 1) := by decide +kernel
theorem dX2_triedWhole_30 : decode cX2_triedWhole 30 = .ok (.iinc 2 1, 3) := by decide +kernel
theorem dX2_triedWhole_33 : decode cX2_triedWhole 33 = .ok (.goto (-29), 3) := by decide +kernel
theorem dX2_triedWhole_36 : decode cX2_triedWhole 36 = .ok (.aload_n 0, 1) := by decide +kernel
theorem dX2_triedWhole_37 : decode cX2_triedWhole 37 = .ok (.iconst 0, 1) := by decide +kernel
theorem dX2_triedWhole_38 : decode cX2_triedWhole 38 = .ok (.iload_n 1, 1) := by decide +kernel
theorem dX2_triedWhole_39 : decode cX2_triedWhole 39 = .ok (.invokestatic 92, 3) := by decide +kernel
theorem dX2_triedWhole_42 : decode cX2_triedWhole 42 = .ok (.ireturn, 1) := by decide +kernel
set_option maxRecDepth 20000 in
theorem ggX2_tryFrom_X2_tryFrom : GoodIn wsX2_tryFrom wsX2_tryFrom := goodIn_r _ [0, 1, 2, 3, 4, 5, 6, 7, 8, 9, 10, 11, 12, 13, 14, 15, 16, 17, 18, 19, 20, 21, 22, 23, 24, 25, 26, 27, 28, 29, 30] (by decide +kernel) (by decide +kernel)
set_option maxRecDepth 20000 in
theorem gX2_tryFrom_X2_tryFrom : GoodIn wsX2_tryFrom (va_wsS RX2 92 yX2_tryFrom wsX2_tryFrom) := goodIn_app (goodIn_of _ (by decide +kernel)) ggX2_tryFrom_X2_tryFrom
set_option maxRecDepth 20000 in
theorem ggX2_tryFrom_X3_at : GoodIn wsX2_tryFrom wsX3_at := goodIn_r _ [14] (by decide +kernel) (by decide +kernel)
set_option maxRecDepth 20000 in
theorem gX2_tryFrom_X3_at_n45 : GoodIn wsX2_tryFrom (wsX3_at) := ggX2_tryFrom_X3_at
set_option maxRecDepth 20000 in
theorem ggX2_tryFrom_X3_has : GoodIn wsX2_tryFrom wsX3_has := goodIn_r _ [16] (by decide +kernel) (by decide +kernel)
set_option maxRecDepth 20000 in
theorem gX2_tryFrom_X3_has_n49 : GoodIn wsX2_tryFrom (wsX3_has) := ggX2_tryFrom_X3_has
set_option maxRecDepth 20000 in
theorem ggX2_tryFrom_X2_weightedWith : GoodIn wsX2_tryFrom wsX2_weightedWith := goodIn_r _ [20, 21, 12, 13, 14, 24, 25, 26, 27, 28, 29, 30] (by decide +kernel) (by decide +kernel)
set_option maxRecDepth 20000 in
theorem gX2_tryFrom_X2_weightedWith : GoodIn wsX2_tryFrom (wsV RX2 68 RX2 yX2_weightedWith wsX2_weightedWith) := goodIn_app (goodIn_of _ (by decide +kernel)) ggX2_tryFrom_X2_weightedWith
set_option maxRecDepth 20000 in
theorem ggX2_tryFrom_X3_put : GoodIn wsX2_tryFrom wsX3_put := goodIn_r _ [23] (by decide +kernel) (by decide +kernel)
set_option maxRecDepth 20000 in
theorem gX2_tryFrom_X3_put_n41 : GoodIn wsX2_tryFrom (wsX3_put) := ggX2_tryFrom_X3_put
theorem dX2_tryFrom_0 : decode cX2_tryFrom 0 = .ok (.iload_n 1, 1) := by decide +kernel
theorem dX2_tryFrom_1 : decode cX2_tryFrom 1 = .ok (.ifCond .lt 11, 3) := by decide +kernel
theorem dX2_tryFrom_4 : decode cX2_tryFrom 4 = .ok (.iload_n 1, 1) := by decide +kernel
theorem dX2_tryFrom_5 : decode cX2_tryFrom 5 = .ok (.aload_n 0, 1) := by decide +kernel
theorem dX2_tryFrom_6 : decode cX2_tryFrom 6 = .ok (.getfield 38, 3) := by decide +kernel
theorem dX2_tryFrom_9 : decode cX2_tryFrom 9 = .ok (.if_icmp .lt 5, 3) := by decide +kernel
theorem dX2_tryFrom_12 : decode cX2_tryFrom 12 = .ok (.iload_n 2, 1) := by decide +kernel
theorem dX2_tryFrom_13 : decode cX2_tryFrom 13 = .ok (.ireturn, 1) := by decide +kernel
theorem dX2_tryFrom_14 : decode cX2_tryFrom 14 = .ok (.aload_n 0, 1) := by decide +kernel
theorem dX2_tryFrom_15 : decode cX2_tryFrom 15 = .ok (.iload_n 1, 1) := by decide +kernel
theorem dX2_tryFrom_16 : decode cX2_tryFrom 16 = .ok (.iconst 1, 1) := by decide +kernel
theorem dX2_tryFrom_17 : decode cX2_tryFrom 17 = .ok (.iadd, 1) := by decide +kernel
theorem dX2_tryFrom_18 : decode cX2_tryFrom 18 = .ok (.iload_n 2, 1) := by decide +kernel
theorem dX2_tryFrom_19 : decode cX2_tryFrom 19 = .ok (.invokestatic 92, 3) := by decide +kernel
theorem dX2_tryFrom_22 : decode cX2_tryFrom 22 = .ok (.istore_n 3, 1) := by decide +kernel
theorem dX2_tryFrom_23 : decode cX2_tryFrom 23 = .ok (.iconst 0, 1) := by decide +kernel
theorem dX2_tryFrom_24 : decode cX2_tryFrom 24 = .ok (.istore 4, 2) := by decide +kernel
theorem dX2_tryFrom_26 : decode cX2_tryFrom 26 = .ok (.iload 4, 2) := by decide +kernel
theorem dX2_tryFrom_28 : decode cX2_tryFrom 28 = .ok (.aload_n 0, 1) := by decide +kernel
theorem dX2_tryFrom_29 : decode cX2_tryFrom 29 = .ok (.getfield 34, 3) := by decide +kernel
theorem dX2_tryFrom_32 : decode cX2_tryFrom 32 = .ok (.if_icmp .ge 101, 3) := by decide +kernel
theorem dX2_tryFrom_35 : decode cX2_tryFrom 35 = .ok (.aload_n 0, 1) := by decide +kernel
theorem dX2_tryFrom_36 : decode cX2_tryFrom 36 = .ok (.getfield 11, 3) := by decide +kernel
theorem dX2_tryFrom_39 : decode cX2_tryFrom 39 = .ok (.iload 4, 2) := by decide +kernel
theorem dX2_tryFrom_41 : decode cX2_tryFrom 41 = .ok (.invokestatic 45, 3) := by decide +kernel
theorem dX2_tryFrom_44 : decode cX2_tryFrom 44 = .ok (.iload_n 1, 1) := by decide +kernel
theorem dX2_tryFrom_45 : decode cX2_tryFrom 45 = .ok (.invokestatic 49, 3) := by decide +kernel
theorem dX2_tryFrom_48 : decode cX2_tryFrom 48 = .ok (.ifCond .eq 79, 3) := by decide +kernel
theorem dX2_tryFrom_51 : decode cX2_tryFrom 51 = .ok (.aload_n 0, 1) := by decide +kernel
theorem dX2_tryFrom_52 : decode cX2_tryFrom 52 = .ok (.getfield 18, 3) := by decide +kernel
theorem dX2_tryFrom_55 : decode cX2_tryFrom 55 = .ok (.iload 4, 2) := by decide +kernel
theorem dX2_tryFrom_57 : decode cX2_tryFrom 57 = .ok (.invokestatic 45, 3) := by decide +kernel
theorem dX2_tryFrom_60 : decode cX2_tryFrom 60 = .ok (.istore 5, 2) := by decide +kernel
theorem dX2_tryFrom_62 : decode cX2_tryFrom 62 = .ok (.iload 5, 2) := by decide +kernel
theorem dX2_tryFrom_64 : decode cX2_tryFrom 64 = .ok (.iconst 1, 1) := by decide +kernel
theorem dX2_tryFrom_65 : decode cX2_tryFrom 65 = .ok (.iload_n 1, 1) := by decide +kernel
theorem dX2_tryFrom_66 : decode cX2_tryFrom 66 = .ok (.ishl, 1) := by decide +kernel
theorem dX2_tryFrom_67 : decode cX2_tryFrom 67 = .ok (.ior, 1) := by decide +kernel
theorem dX2_tryFrom_68 : decode cX2_tryFrom 68 = .ok (.istore 6, 2) := by decide +kernel
theorem dX2_tryFrom_70 : decode cX2_tryFrom 70 = .ok (.aload_n 0, 1) := by decide +kernel
theorem dX2_tryFrom_71 : decode cX2_tryFrom 71 = .ok (.iload 4, 2) := by decide +kernel
theorem dX2_tryFrom_73 : decode cX2_tryFrom 73 = .ok (.iload 6, 2) := by decide +kernel
theorem dX2_tryFrom_75 : decode cX2_tryFrom 75 = .ok (.invokevirtual 68, 3) := by decide +kernel
theorem dX2_tryFrom_78 : decode cX2_tryFrom 78 = .ok (.aload_n 0, 1) := by decide +kernel
theorem dX2_tryFrom_79 : decode cX2_tryFrom 79 = .ok (.iload 4, 2) := by decide +kernel
theorem dX2_tryFrom_81 : decode cX2_tryFrom 81 = .ok (.iload 5, 2) := by decide +kernel
theorem dX2_tryFrom_83 : decode cX2_tryFrom 83 = .ok (.invokevirtual 68, 3) := by decide +kernel
theorem dX2_tryFrom_86 : decode cX2_tryFrom 86 = .ok (.isub, 1) := by decide +kernel
theorem dX2_tryFrom_87 : decode cX2_tryFrom 87 = .ok (.istore 7, 2) := by decide +kernel
theorem dX2_tryFrom_89 : decode cX2_tryFrom 89 = .ok (.aload_n 0, 1) := by decide +kernel
theorem dX2_tryFrom_90 : decode cX2_tryFrom 90 = .ok (.getfield 18, 3) := by decide +kernel
theorem dX2_tryFrom_93 : decode cX2_tryFrom 93 = .ok (.iload 4, 2) := by decide +kernel
theorem dX2_tryFrom_95 : decode cX2_tryFrom 95 = .ok (.iload 6, 2) := by decide +kernel
theorem dX2_tryFrom_97 : decode cX2_tryFrom 97 = .ok (.invokestatic 41, 3) := by decide +kernel
theorem dX2_tryFrom_100 : decode cX2_tryFrom 100 = .ok (.iload_n 3, 1) := by decide +kernel
theorem dX2_tryFrom_101 : decode cX2_tryFrom 101 = .ok (.aload_n 0, 1) := by decide +kernel
theorem dX2_tryFrom_102 : decode cX2_tryFrom 102 = .ok (.iload_n 1, 1) := by decide +kernel
theorem dX2_tryFrom_103 : decode cX2_tryFrom 103 = .ok (.iconst 1, 1) := by decide +kernel
theorem dX2_tryFrom_104 : decode cX2_tryFrom 104 = .ok (.iadd, 1) := by decide +kernel
theorem dX2_tryFrom_105 : decode cX2_tryFrom 105 = .ok (.iload_n 2, 1) := by decide +kernel
theorem dX2_tryFrom_106 : decode cX2_tryFrom 106 = .ok (.iload 7, 2) := by decide +kernel
theorem dX2_tryFrom_108 : decode cX2_tryFrom 108 = .ok (.iadd, 1) := by decide +kernel
theorem dX2_tryFrom_109 : decode cX2_tryFrom 109 = .ok (.invokestatic 92, 3) := by decide +kernel
theorem dX2_tryFrom_112 : decode cX2_tryFrom 112 = .ok (.invokestatic 28, 3) := by decide +kernel
theorem dX2_tryFrom_115 : decode cX2_tryFrom 115 = .ok (.istore_n 3, 1) := by decide +kernel
theorem dX2_tryFrom_116 : decode cX2_tryFrom 116 = .ok (.aload_n 0, 1) := by decide +kernel
theorem dX2_tryFrom_117 : decode cX2_tryFrom 117 = .ok (.getfield 18, 3) := by decide +kernel
theorem dX2_tryFrom_120 : decode cX2_tryFrom 120 = .ok (.iload 4, 2) := by decide +kernel
theorem dX2_tryFrom_122 : decode cX2_tryFrom 122 = .ok (.iload 5, 2) := by decide +kernel
theorem dX2_tryFrom_124 : decode cX2_tryFrom 124 = .ok (.invokestatic 41, 3) := by decide +kernel
theorem dX2_tryFrom_127 : decode cX2_tryFrom 127 = .ok (.iinc 4 1, 3) := by decide +kernel
theorem dX2_tryFrom_130 : decode cX2_tryFrom 130 = .ok (.goto (-104), 3) := by decide +kernel
theorem dX2_tryFrom_133 : decode cX2_tryFrom 133 = .ok (.iload_n 3, 1) := by decide +kernel
theorem dX2_tryFrom_134 : decode cX2_tryFrom 134 = .ok (.ireturn, 1) := by decide +kernel
set_option maxRecDepth 20000 in
theorem ggX3_init_X2_init : GoodIn wsX3_init wsX2_init := goodIn_r _ [20, 21, 2, 3, 4, 22, 23, 24, 25, 26, 27, 37, 38, 39, 40, 41, 42, 43] (by decide +kernel) (by decide +kernel)
set_option maxRecDepth 20000 in
theorem gX3_init_X2_init_n30 : GoodIn wsX3_init (wsX2_init) := ggX3_init_X2_init
theorem dX3_init_0 : decode cX3_init 0 = .ok (.aload_n 0, 1) := by decide +kernel
theorem dX3_init_1 : decode cX3_init 1 = .ok (.invokespecial 1, 3) := by decide +kernel
theorem dX3_init_4 : decode cX3_init 4 = .ok (.aload_n 0, 1) := by decide +kernel
theorem dX3_init_5 : decode cX3_init 5 = .ok (.iconst 4, 1) := by decide +kernel
theorem dX3_init_6 : decode cX3_init 6 = .ok (.newarray .int, 2) := by decide +kernel
theorem dX3_init_8 : decode cX3_init 8 = .ok (.dup, 1) := by decide +kernel
theorem dX3_init_9 : decode cX3_init 9 = .ok (.iconst 0, 1) := by decide +kernel
theorem dX3_init_10 : decode cX3_init 10 = .ok (.iconst 0, 1) := by decide +kernel
theorem dX3_init_11 : decode cX3_init 11 = .ok (.iastore, 1) := by decide +kernel
theorem dX3_init_12 : decode cX3_init 12 = .ok (.dup, 1) := by decide +kernel
theorem dX3_init_13 : decode cX3_init 13 = .ok (.iconst 1, 1) := by decide +kernel
theorem dX3_init_14 : decode cX3_init 14 = .ok (.bipush 20, 2) := by decide +kernel
theorem dX3_init_16 : decode cX3_init 16 = .ok (.iastore, 1) := by decide +kernel
theorem dX3_init_17 : decode cX3_init 17 = .ok (.dup, 1) := by decide +kernel
theorem dX3_init_18 : decode cX3_init 18 = .ok (.iconst 2, 1) := by decide +kernel
theorem dX3_init_19 : decode cX3_init 19 = .ok (.bipush 50, 2) := by decide +kernel
theorem dX3_init_21 : decode cX3_init 21 = .ok (.iastore, 1) := by decide +kernel
theorem dX3_init_22 : decode cX3_init 22 = .ok (.dup, 1) := by decide +kernel
theorem dX3_init_23 : decode cX3_init 23 = .ok (.iconst 3, 1) := by decide +kernel
theorem dX3_init_24 : decode cX3_init 24 = .ok (.bipush 100, 2) := by decide +kernel
theorem dX3_init_26 : decode cX3_init 26 = .ok (.iastore, 1) := by decide +kernel
theorem dX3_init_27 : decode cX3_init 27 = .ok (.putfield 7, 3) := by decide +kernel
theorem dX3_init_30 : decode cX3_init 30 = .ok (.aload_n 0, 1) := by decide +kernel
theorem dX3_init_31 : decode cX3_init 31 = .ok (.iconst 4, 1) := by decide +kernel
theorem dX3_init_32 : decode cX3_init 32 = .ok (.newarray .int, 2) := by decide +kernel
theorem dX3_init_34 : decode cX3_init 34 = .ok (.dup, 1) := by decide +kernel
theorem dX3_init_35 : decode cX3_init 35 = .ok (.iconst 0, 1) := by decide +kernel
theorem dX3_init_36 : decode cX3_init 36 = .ok (.iconst 0, 1) := by decide +kernel
theorem dX3_init_37 : decode cX3_init 37 = .ok (.iastore, 1) := by decide +kernel
theorem dX3_init_38 : decode cX3_init 38 = .ok (.dup, 1) := by decide +kernel
theorem dX3_init_39 : decode cX3_init 39 = .ok (.iconst 1, 1) := by decide +kernel
theorem dX3_init_40 : decode cX3_init 40 = .ok (.bipush 50, 2) := by decide +kernel
theorem dX3_init_42 : decode cX3_init 42 = .ok (.iastore, 1) := by decide +kernel
theorem dX3_init_43 : decode cX3_init 43 = .ok (.dup, 1) := by decide +kernel
theorem dX3_init_44 : decode cX3_init 44 = .ok (.iconst 2, 1) := by decide +kernel
theorem dX3_init_45 : decode cX3_init 45 = .ok (.bipush 100, 2) := by decide +kernel
theorem dX3_init_47 : decode cX3_init 47 = .ok (.iastore, 1) := by decide +kernel
theorem dX3_init_48 : decode cX3_init 48 = .ok (.dup, 1) := by decide +kernel
theorem dX3_init_49 : decode cX3_init 49 = .ok (.iconst 3, 1) := by decide +kernel
theorem dX3_init_50 : decode cX3_init 50 = .ok (.bipush 100, 2) := by decide +kernel
theorem dX3_init_52 : decode cX3_init 52 = .ok (.iastore, 1) := by decide +kernel
theorem dX3_init_53 : decode cX3_init 53 = .ok (.putfield 13, 3) := by decide +kernel
theorem dX3_init_56 : decode cX3_init 56 = .ok (.aload_n 0, 1) := by decide +kernel
theorem dX3_init_57 : decode cX3_init 57 = .ok (.bipush 8, 2) := by decide +kernel
theorem dX3_init_59 : decode cX3_init 59 = .ok (.anewarray 16, 3) := by decide +kernel
theorem dX3_init_62 : decode cX3_init 62 = .ok (.putfield 18, 3) := by decide +kernel
theorem dX3_init_65 : decode cX3_init 65 = .ok (.aload_n 0, 1) := by decide +kernel
theorem dX3_init_66 : decode cX3_init 66 = .ok (.iconst 5, 1) := by decide +kernel
theorem dX3_init_67 : decode cX3_init 67 = .ok (.anewarray 22, 3) := by decide +kernel
theorem dX3_init_70 : decode cX3_init 70 = .ok (.putfield 24, 3) := by decide +kernel
theorem dX3_init_73 : decode cX3_init 73 = .ok (.aload_n 0, 1) := by decide +kernel
theorem dX3_init_74 : decode cX3_init 74 = .ok (.new 28, 3) := by decide +kernel
theorem dX3_init_77 : decode cX3_init 77 = .ok (.dup, 1) := by decide +kernel
theorem dX3_init_78 : decode cX3_init 78 = .ok (.invokespecial 30, 3) := by decide +kernel
theorem dX3_init_81 : decode cX3_init 81 = .ok (.putfield 31, 3) := by decide +kernel
theorem dX3_init_84 : decode cX3_init 84 = .ok (.aload_n 0, 1) := by decide +kernel
theorem dX3_init_85 : decode cX3_init 85 = .ok (.iconst 0, 1) := by decide +kernel
theorem dX3_init_86 : decode cX3_init 86 = .ok (.putfield 35, 3) := by decide +kernel
theorem dX3_init_89 : decode cX3_init 89 = .ok (.aload_n 0, 1) := by decide +kernel
theorem dX3_init_90 : decode cX3_init 90 = .ok (.iconst 0, 1) := by decide +kernel
theorem dX3_init_91 : decode cX3_init 91 = .ok (.putfield 39, 3) := by decide +kernel
theorem dX3_init_94 : decode cX3_init 94 = .ok (.aload_n 0, 1) := by decide +kernel
theorem dX3_init_95 : decode cX3_init 95 = .ok (.bipush 70, 2) := by decide +kernel
theorem dX3_init_97 : decode cX3_init 97 = .ok (.putfield 42, 3) := by decide +kernel
theorem dX3_init_100 : decode cX3_init 100 = .ok (.aload_n 0, 1) := by decide +kernel
theorem dX3_init_101 : decode cX3_init 101 = .ok (.iconst 0, 1) := by decide +kernel
theorem dX3_init_102 : decode cX3_init 102 = .ok (.putfield 45, 3) := by decide +kernel
theorem dX3_init_105 : decode cX3_init 105 = .ok (.return_, 1) := by decide +kernel
set_option maxRecDepth 20000 in
theorem ggX3_setWeights_X3_isClass : GoodIn wsX3_setWeights wsX3_isClass := goodIn_r _ [10, 11, 12, 9, 13] (by decide +kernel) (by decide +kernel)
set_option maxRecDepth 20000 in
theorem gX3_setWeights_X3_isClass : GoodIn wsX3_setWeights (va_wsS RX3 48 yX3_isClass wsX3_isClass) := goodIn_app (goodIn_of _ (by decide +kernel)) ggX3_setWeights_X3_isClass
set_option maxRecDepth 20000 in
theorem ggX3_setWeights_X3_isWithin : GoodIn wsX3_setWeights wsX3_isWithin := goodIn_r _ [13] (by decide +kernel) (by decide +kernel)
set_option maxRecDepth 20000 in
theorem gX3_setWeights_X3_isWithin : GoodIn wsX3_setWeights (va_wsS RX3 59 yX3_isWithin wsX3_isWithin) := goodIn_app (goodIn_of _ (by decide +kernel)) ggX3_setWeights_X3_isWithin
set_option maxRecDepth 20000 in
theorem ggX3_setWeights_X3_at : GoodIn wsX3_setWeights wsX3_at := goodIn_r _ [16] (by decide +kernel) (by decide +kernel)
set_option maxRecDepth 20000 in
theorem gX3_setWeights_X3_at : GoodIn wsX3_setWeights (va_wsS RX3 68 yX3_at wsX3_at) := goodIn_app (goodIn_of _ (by decide +kernel)) ggX3_setWeights_X3_at
set_option maxRecDepth 20000 in
theorem ggX3_setWeights_X3_put : GoodIn wsX3_setWeights wsX3_put := goodIn_r _ [19] (by decide +kernel) (by decide +kernel)
set_option maxRecDepth 20000 in
theorem gX3_setWeights_X3_put : GoodIn wsX3_setWeights (va_wsS RX3 72 yX3_put wsX3_put) := goodIn_app (goodIn_of _ (by decide +kernel)) ggX3_setWeights_X3_put
theorem dX3_setWeights_0 : decode cX3_setWeights 0 = .ok (.iload_n 1, 1) := by decide +kernel
theorem dX3_setWeights_1 : decode cX3_setWeights 1 = .ok (.invokestatic 48, 3) := by decide +kernel
theorem dX3_setWeights_4 : decode cX3_setWeights 4 = .ok (.ifCond .ne 13, 3) := by decide +kernel
theorem dX3_setWeights_7 : decode cX3_setWeights 7 = .ok (.new 52, 3) := by decide +kernel
theorem dX3_setWeights_10 : decode cX3_setWeights 10 = .ok (.dup, 1) := by decide +kernel
theorem dX3_setWeights_11 : decode cX3_setWeights 11 = .ok (.ldc 54, 2) := by decide +kernel
theorem dX3_setWeights_13 : decode cX3_setWeights 13 = .ok (.invokespecial 56, 3) := by decide +kernel
theorem dX3_setWeights_16 : decode cX3_setWeights 16 = .ok (.athrow, 1) := by decide +kernel
theorem dX3_setWeights_17 : decode cX3_setWeights 17 = .ok (.iload_n 2, 1) := by decide +kernel
theorem dX3_setWeights_18 : decode cX3_setWeights 18 = .ok (.iconst 0, 1) := by decide +kernel
theorem dX3_setWeights_19 : decode cX3_setWeights 19 = .ok (.sipush 400, 3) := by decide +kernel
theorem dX3_setWeights_22 : decode cX3_setWeights 22 = .ok (.invokestatic 59, 3) := by decide +kernel
theorem dX3_setWeights_25 : decode cX3_setWeights 25 = .ok (.ifCond .eq 14, 3) := by decide +kernel
theorem dX3_setWeights_28 : decode cX3_setWeights 28 = .ok (.iload_n 3, 1) := by decide +kernel
theorem dX3_setWeights_29 : decode cX3_setWeights 29 = .ok (.iconst 0, 1) := by decide +kernel
theorem dX3_setWeights_30 : decode cX3_setWeights 30 = .ok (.sipush 400, 3) := by decide +kernel
theorem dX3_setWeights_33 : decode cX3_setWeights 33 = .ok (.invokestatic 59, 3) := by decide +kernel
theorem dX3_setWeights_36 : decode cX3_setWeights 36 = .ok (.ifCond .ne 13, 3) := by decide +kernel
theorem dX3_setWeights_39 : decode cX3_setWeights 39 = .ok (.new 63, 3) := by decide +kernel
theorem dX3_setWeights_42 : decode cX3_setWeights 42 = .ok (.dup, 1) := by decide +kernel
theorem dX3_setWeights_43 : decode cX3_setWeights 43 = .ok (.ldc 65, 2) := by decide +kernel
theorem dX3_setWeights_45 : decode cX3_setWeights 45 = .ok (.invokespecial 67, 3) := by decide +kernel
theorem dX3_setWeights_48 : decode cX3_setWeights 48 = .ok (.athrow, 1) := by decide +kernel
theorem dX3_setWeights_49 : decode cX3_setWeights 49 = .ok (.aload_n 0, 1) := by decide +kernel
theorem dX3_setWeights_50 : decode cX3_setWeights 50 = .ok (.getfield 7, 3) := by decide +kernel
theorem dX3_setWeights_53 : decode cX3_setWeights 53 = .ok (.iload_n 1, 1) := by decide +kernel
theorem dX3_setWeights_54 : decode cX3_setWeights 54 = .ok (.invokestatic 68, 3) := by decide +kernel
theorem dX3_setWeights_57 : decode cX3_setWeights 57 = .ok (.istore 4, 2) := by decide +kernel
theorem dX3_setWeights_59 : decode cX3_setWeights 59 = .ok (.aload_n 0, 1) := by decide +kernel
theorem dX3_setWeights_60 : decode cX3_setWeights 60 = .ok (.getfield 7, 3) := by decide +kernel
theorem dX3_setWeights_63 : decode cX3_setWeights 63 = .ok (.iload_n 1, 1) := by decide +kernel
theorem dX3_setWeights_64 : decode cX3_setWeights 64 = .ok (.iload_n 2, 1) := by decide +kernel
theorem dX3_setWeights_65 : decode cX3_setWeights 65 = .ok (.invokestatic 72, 3) := by decide +kernel
theorem dX3_setWeights_68 : decode cX3_setWeights 68 = .ok (.aload_n 0, 1) := by decide +kernel
theorem dX3_setWeights_69 : decode cX3_setWeights 69 = .ok (.getfield 13, 3) := by decide +kernel
theorem dX3_setWeights_72 : decode cX3_setWeights 72 = .ok (.iload_n 1, 1) := by decide +kernel
theorem dX3_setWeights_73 : decode cX3_setWeights 73 = .ok (.iload_n 3, 1) := by decide +kernel
theorem dX3_setWeights_74 : decode cX3_setWeights 74 = .ok (.invokestatic 72, 3) := by decide +kernel
theorem dX3_setWeights_77 : decode cX3_setWeights 77 = .ok (.iload 4, 2) := by decide +kernel
theorem dX3_setWeights_79 : decode cX3_setWeights 79 = .ok (.ireturn, 1) := by decide +kernel
set_option maxRecDepth 20000 in
theorem ggX3_setFloor_X3_isWithin : GoodIn wsX3_setFloor wsX3_isWithin := goodIn_r _ [7] (by decide +kernel) (by decide +kernel)
set_option maxRecDepth 20000 in
theorem gX3_setFloor_X3_isWithin : GoodIn wsX3_setFloor (va_wsS RX3 59 yX3_isWithin wsX3_isWithin) := goodIn_app (goodIn_of _ (by decide +kernel)) ggX3_setFloor_X3_isWithin
theorem dX3_setFloor_0 : decode cX3_setFloor 0 = .ok (.iload_n 1, 1) := by decide +kernel
theorem dX3_setFloor_1 : decode cX3_setFloor 1 = .ok (.iconst 0, 1) := by decide +kernel
theorem dX3_setFloor_2 : decode cX3_setFloor 2 = .ok (.bipush 100, 2) := by decide +kernel
theorem dX3_setFloor_4 : decode cX3_setFloor 4 = .ok (.invokestatic 59, 3) := by decide +kernel
theorem dX3_setFloor_7 : decode cX3_setFloor 7 = .ok (.ifCond .ne 13, 3) := by decide +kernel
theorem dX3_setFloor_10 : decode cX3_setFloor 10 = .ok (.new 63, 3) := by decide +kernel
theorem dX3_setFloor_13 : decode cX3_setFloor 13 = .ok (.dup, 1) := by decide +kernel
theorem dX3_setFloor_14 : decode cX3_setFloor 14 = .ok (.ldc 76, 2) := by decide +kernel
theorem dX3_setFloor_16 : decode cX3_setFloor 16 = .ok (.invokespecial 67, 3) := by decide +kernel
theorem dX3_setFloor_19 : decode cX3_setFloor 19 = .ok (.athrow, 1) := by decide +kernel
theorem dX3_setFloor_20 : decode cX3_setFloor 20 = .ok (.aload_n 0, 1) := by decide +kernel
theorem dX3_setFloor_21 : decode cX3_setFloor 21 = .ok (.getfield 42, 3) := by decide +kernel
theorem dX3_setFloor_24 : decode cX3_setFloor 24 = .ok (.istore_n 2, 1) := by decide +kernel
theorem dX3_setFloor_25 : decode cX3_setFloor 25 = .ok (.aload_n 0, 1) := by decide +kernel
theorem dX3_setFloor_26 : decode cX3_setFloor 26 = .ok (.iload_n 1, 1) := by decide +kernel
theorem dX3_setFloor_27 : decode cX3_setFloor 27 = .ok (.putfield 42, 3) := by decide +kernel
theorem dX3_setFloor_30 : decode cX3_setFloor 30 = .ok (.iload_n 2, 1) := by decide +kernel
theorem dX3_setFloor_31 : decode cX3_setFloor 31 = .ok (.ireturn, 1) := by decide +kernel
set_option maxRecDepth 20000 in
theorem ggX3_setCapital_X3_isWithin : GoodIn wsX3_setCapital wsX3_isWithin := goodIn_r _ [8] (by decide +kernel) (by decide +kernel)
set_option maxRecDepth 20000 in
theorem gX3_setCapital_X3_isWithin : GoodIn wsX3_setCapital (va_wsS RX3 59 yX3_isWithin wsX3_isWithin) := goodIn_app (goodIn_of _ (by decide +kernel)) ggX3_setCapital_X3_isWithin
theorem dX3_setCapital_0 : decode cX3_setCapital 0 = .ok (.iload_n 1, 1) := by decide +kernel
theorem dX3_setCapital_1 : decode cX3_setCapital 1 = .ok (.iconst 0, 1) := by decide +kernel
theorem dX3_setCapital_2 : decode cX3_setCapital 2 = .ok (.ldc 78, 2) := by decide +kernel
theorem dX3_setCapital_4 : decode cX3_setCapital 4 = .ok (.invokestatic 59, 3) := by decide +kernel
theorem dX3_setCapital_7 : decode cX3_setCapital 7 = .ok (.ifCond .ne 13, 3) := by decide +kernel
theorem dX3_setCapital_10 : decode cX3_setCapital 10 = .ok (.new 63, 3) := by decide +kernel
theorem dX3_setCapital_13 : decode cX3_setCapital 13 = .ok (.dup, 1) := by decide +kernel
theorem dX3_setCapital_14 : decode cX3_setCapital 14 = .ok (.ldc 79, 2) := by decide +kernel
theorem dX3_setCapital_16 : decode cX3_setCapital 16 = .ok (.invokespecial 67, 3) := by decide +kernel
theorem dX3_setCapital_19 : decode cX3_setCapital 19 = .ok (.athrow, 1) := by decide +kernel
theorem dX3_setCapital_20 : decode cX3_setCapital 20 = .ok (.aload_n 0, 1) := by decide +kernel
theorem dX3_setCapital_21 : decode cX3_setCapital 21 = .ok (.getfield 45, 3) := by decide +kernel
theorem dX3_setCapital_24 : decode cX3_setCapital 24 = .ok (.istore_n 2, 1) := by decide +kernel
theorem dX3_setCapital_25 : decode cX3_setCapital 25 = .ok (.aload_n 0, 1) := by decide +kernel
theorem dX3_setCapital_26 : decode cX3_setCapital 26 = .ok (.iload_n 1, 1) := by decide +kernel
theorem dX3_setCapital_27 : decode cX3_setCapital 27 = .ok (.putfield 45, 3) := by decide +kernel
theorem dX3_setCapital_30 : decode cX3_setCapital 30 = .ok (.iload_n 2, 1) := by decide +kernel
theorem dX3_setCapital_31 : decode cX3_setCapital 31 = .ok (.ireturn, 1) := by decide +kernel
set_option maxRecDepth 20000 in
theorem ggX3_addExposure_X3_isClass : GoodIn wsX3_addExposure wsX3_isClass := goodIn_r _ [15, 16, 17, 14, 18] (by decide +kernel) (by decide +kernel)
set_option maxRecDepth 20000 in
theorem gX3_addExposure_X3_isClass : GoodIn wsX3_addExposure (va_wsS RX3 48 yX3_isClass wsX3_isClass) := goodIn_app (goodIn_of _ (by decide +kernel)) ggX3_addExposure_X3_isClass
set_option maxRecDepth 20000 in
theorem ggX3_addExposure_X3_isParty : GoodIn wsX3_addExposure wsX3_isParty := goodIn_r _ [21, 16, 17, 14, 18] (by decide +kernel) (by decide +kernel)
set_option maxRecDepth 20000 in
theorem gX3_addExposure_X3_isParty : GoodIn wsX3_addExposure (va_wsS RX3 81 yX3_isParty wsX3_isParty) := goodIn_app (goodIn_of _ (by decide +kernel)) ggX3_addExposure_X3_isParty
set_option maxRecDepth 20000 in
theorem ggX3_addExposure_X3_isPart : GoodIn wsX3_addExposure wsX3_isPart := goodIn_r _ [24, 25, 16, 17, 14, 18] (by decide +kernel) (by decide +kernel)
set_option maxRecDepth 20000 in
theorem gX3_addExposure_X3_isPart : GoodIn wsX3_addExposure (va_wsS RX3 86 yX3_isPart wsX3_isPart) := goodIn_app (goodIn_of _ (by decide +kernel)) ggX3_addExposure_X3_isPart
set_option maxRecDepth 20000 in
theorem ggX3_addExposure_X3_isCurrency : GoodIn wsX3_addExposure wsX3_isCurrency := goodIn_r _ [28, 16, 17, 14, 18] (by decide +kernel) (by decide +kernel)
set_option maxRecDepth 20000 in
theorem gX3_addExposure_X3_isCurrency : GoodIn wsX3_addExposure (va_wsS RX3 89 yX3_isCurrency wsX3_isCurrency) := goodIn_app (goodIn_of _ (by decide +kernel)) ggX3_addExposure_X3_isCurrency
set_option maxRecDepth 20000 in
theorem ggX3_addExposure_X3_isDays : GoodIn wsX3_addExposure wsX3_isDays := goodIn_r _ [31, 16, 17, 14, 18] (by decide +kernel) (by decide +kernel)
set_option maxRecDepth 20000 in
theorem gX3_addExposure_X3_isDays : GoodIn wsX3_addExposure (va_wsS RX3 92 yX3_isDays wsX3_isDays) := goodIn_app (goodIn_of _ (by decide +kernel)) ggX3_addExposure_X3_isDays
set_option maxRecDepth 20000 in
theorem ggX3_addExposure_X0_init : GoodIn wsX3_addExposure wsX0_init := goodIn_r _ [33, 34, 35, 36, 37, 38, 39, 40, 41, 42, 43, 44, 54, 55, 56, 57, 58, 59, 60, 61] (by decide +kernel) (by decide +kernel)
set_option maxRecDepth 20000 in
theorem gX3_addExposure_X0_init_n102 : GoodIn wsX3_addExposure (wsX0_init) := ggX3_addExposure_X0_init
theorem dX3_addExposure_0 : decode cX3_addExposure 0 = .ok (.iload_n 1, 1) := by decide +kernel
theorem dX3_addExposure_1 : decode cX3_addExposure 1 = .ok (.invokestatic 48, 3) := by decide +kernel
theorem dX3_addExposure_4 : decode cX3_addExposure 4 = .ok (.ifCond .eq 10, 3) := by decide +kernel
theorem dX3_addExposure_7 : decode cX3_addExposure 7 = .ok (.iload_n 2, 1) := by decide +kernel
theorem dX3_addExposure_8 : decode cX3_addExposure 8 = .ok (.invokestatic 81, 3) := by decide +kernel
theorem dX3_addExposure_11 : decode cX3_addExposure 11 = .ok (.ifCond .ne 13, 3) := by decide +kernel
theorem dX3_addExposure_14 : decode cX3_addExposure 14 = .ok (.new 52, 3) := by decide +kernel
theorem dX3_addExposure_17 : decode cX3_addExposure 17 = .ok (.dup, 1) := by decide +kernel
theorem dX3_addExposure_18 : decode cX3_addExposure 18 = .ok (.ldc 84, 2) := by decide +kernel
theorem dX3_addExposure_20 : decode cX3_addExposure 20 = .ok (.invokespecial 56, 3) := by decide +kernel
theorem dX3_addExposure_23 : decode cX3_addExposure 23 = .ok (.athrow, 1) := by decide +kernel
theorem dX3_addExposure_24 : decode cX3_addExposure 24 = .ok (.iload_n 3, 1) := by decide +kernel
theorem dX3_addExposure_25 : decode cX3_addExposure 25 = .ok (.invokestatic 86, 3) := by decide +kernel
theorem dX3_addExposure_28 : decode cX3_addExposure 28 = .ok (.ifCond .eq 27, 3) := by decide +kernel
theorem dX3_addExposure_31 : decode cX3_addExposure 31 = .ok (.iload 4, 2) := by decide +kernel
theorem dX3_addExposure_33 : decode cX3_addExposure 33 = .ok (.invokestatic 86, 3) := by decide +kernel
theorem dX3_addExposure_36 : decode cX3_addExposure 36 = .ok (.ifCond .eq 19, 3) := by decide +kernel
theorem dX3_addExposure_39 : decode cX3_addExposure 39 = .ok (.iload 5, 2) := by decide +kernel
theorem dX3_addExposure_41 : decode cX3_addExposure 41 = .ok (.invokestatic 89, 3) := by decide +kernel
theorem dX3_addExposure_44 : decode cX3_addExposure 44 = .ok (.ifCond .eq 11, 3) := by decide +kernel
theorem dX3_addExposure_47 : decode cX3_addExposure 47 = .ok (.iload 6, 2) := by decide +kernel
theorem dX3_addExposure_49 : decode cX3_addExposure 49 = .ok (.invokestatic 92, 3) := by decide +kernel
theorem dX3_addExposure_52 : decode cX3_addExposure 52 = .ok (.ifCond .ne 13, 3) := by decide +kernel
theorem dX3_addExposure_55 : decode cX3_addExposure 55 = .ok (.new 63, 3) := by decide +kernel
theorem dX3_addExposure_58 : decode cX3_addExposure 58 = .ok (.dup, 1) := by decide +kernel
theorem dX3_addExposure_59 : decode cX3_addExposure 59 = .ok (.ldc 95, 2) := by decide +kernel
theorem dX3_addExposure_61 : decode cX3_addExposure 61 = .ok (.invokespecial 67, 3) := by decide +kernel
theorem dX3_addExposure_64 : decode cX3_addExposure 64 = .ok (.athrow, 1) := by decide +kernel
theorem dX3_addExposure_65 : decode cX3_addExposure 65 = .ok (.aload_n 0, 1) := by decide +kernel
theorem dX3_addExposure_66 : decode cX3_addExposure 66 = .ok (.getfield 35, 3) := by decide +kernel
theorem dX3_addExposure_69 : decode cX3_addExposure 69 = .ok (.istore 7, 2) := by decide +kernel
theorem dX3_addExposure_71 : decode cX3_addExposure 71 = .ok (.iload 7, 2) := by decide +kernel
theorem dX3_addExposure_73 : decode cX3_addExposure 73 = .ok (.ifCond .lt 13, 3) := by decide +kernel
theorem dX3_addExposure_76 : decode cX3_addExposure 76 = .ok (.iload 7, 2) := by decide +kernel
theorem dX3_addExposure_78 : decode cX3_addExposure 78 = .ok (.aload_n 0, 1) := by decide +kernel
theorem dX3_addExposure_79 : decode cX3_addExposure 79 = .ok (.getfield 18, 3) := by decide +kernel
theorem dX3_addExposure_82 : decode cX3_addExposure 82 = .ok (.arraylength, 1) := by decide +kernel
theorem dX3_addExposure_83 : decode cX3_addExposure 83 = .ok (.if_icmp .lt 13, 3) := by decide +kernel
theorem dX3_addExposure_86 : decode cX3_addExposure 86 = .ok (.new 97, 3) := by decide +kernel
theorem dX3_addExposure_89 : decode cX3_addExposure 89 = .ok (.dup, 1) := by decide +kernel
theorem dX3_addExposure_90 : decode cX3_addExposure 90 = .ok (.ldc 99, 2) := by decide +kernel
theorem dX3_addExposure_92 : decode cX3_addExposure 92 = .ok (.invokespecial 101, 3) := by decide +kernel
theorem dX3_addExposure_95 : decode cX3_addExposure 95 = .ok (.athrow, 1) := by decide +kernel
theorem dX3_addExposure_96 : decode cX3_addExposure 96 = .ok (.aload_n 0, 1) := by decide +kernel
theorem dX3_addExposure_97 : decode cX3_addExposure 97 = .ok (.getfield 18, 3) := by decide +kernel
theorem dX3_addExposure_100 : decode cX3_addExposure 100 = .ok (.iload 7, 2) := by decide +kernel
theorem dX3_addExposure_102 : decode cX3_addExposure 102 = .ok (.new 16, 3) := by decide +kernel
theorem dX3_addExposure_105 : decode cX3_addExposure 105 = .ok (.dup, 1) := by decide +kernel
theorem dX3_addExposure_106 : decode cX3_addExposure 106 = .ok (.iload_n 1, 1) := by decide +kernel
theorem dX3_addExposure_107 : decode cX3_addExposure 107 = .ok (.iload_n 2, 1) := by decide +kernel
theorem dX3_addExposure_108 : decode cX3_addExposure 108 = .ok (.iload_n 3, 1) := by decide +kernel
theorem dX3_addExposure_109 : decode cX3_addExposure 109 = .ok (.iload 4, 2) := by decide +kernel
theorem dX3_addExposure_111 : decode cX3_addExposure 111 = .ok (.iload 5, 2) := by decide +kernel
theorem dX3_addExposure_113 : decode cX3_addExposure 113 = .ok (.iload 6, 2) := by decide +kernel
theorem dX3_addExposure_115 : decode cX3_addExposure 115 = .ok (.invokespecial 102, 3) := by decide +kernel
theorem dX3_addExposure_118 : decode cX3_addExposure 118 = .ok (.aastore, 1) := by decide +kernel
theorem dX3_addExposure_119 : decode cX3_addExposure 119 = .ok (.aload_n 0, 1) := by decide +kernel
theorem dX3_addExposure_120 : decode cX3_addExposure 120 = .ok (.iload 7, 2) := by decide +kernel
theorem dX3_addExposure_122 : decode cX3_addExposure 122 = .ok (.iconst 1, 1) := by decide +kernel
theorem dX3_addExposure_123 : decode cX3_addExposure 123 = .ok (.iadd, 1) := by decide +kernel
theorem dX3_addExposure_124 : decode cX3_addExposure 124 = .ok (.putfield 35, 3) := by decide +kernel
theorem dX3_addExposure_127 : decode cX3_addExposure 127 = .ok (.iload 7, 2) := by decide +kernel
theorem dX3_addExposure_129 : decode cX3_addExposure 129 = .ok (.ireturn, 1) := by decide +kernel
set_option maxRecDepth 20000 in
theorem ggX3_draw_X3_exposureAt : GoodIn wsX3_draw wsX3_exposureAt := goodIn_r _ [13, 14, 29, 30, 31, 32, 33, 34, 35, 36, 37] (by decide +kernel) (by decide +kernel)
set_option maxRecDepth 20000 in
theorem gX3_draw_X3_exposureAt : GoodIn wsX3_draw (wsV RX3 105 RX3 yX3_exposureAt wsX3_exposureAt) := goodIn_app (goodIn_of _ (by decide +kernel)) ggX3_draw_X3_exposureAt
set_option maxRecDepth 20000 in
theorem ggX3_draw_X3_isWithin : GoodIn wsX3_draw wsX3_isWithin := goodIn_r _ [17] (by decide +kernel) (by decide +kernel)
set_option maxRecDepth 20000 in
theorem gX3_draw_X3_isWithin : GoodIn wsX3_draw (va_wsS RX3 59 yX3_isWithin wsX3_isWithin) := goodIn_app (goodIn_of _ (by decide +kernel)) ggX3_draw_X3_isWithin
set_option maxRecDepth 20000 in
theorem ggX3_draw_X3_isPart : GoodIn wsX3_draw wsX3_isPart := goodIn_r _ [20, 8, 15, 16, 12, 17] (by decide +kernel) (by decide +kernel)
set_option maxRecDepth 20000 in
theorem gX3_draw_X3_isPart : GoodIn wsX3_draw (va_wsS RX3 86 yX3_isPart wsX3_isPart) := goodIn_app (goodIn_of _ (by decide +kernel)) ggX3_draw_X3_isPart
theorem dX3_draw_0 : decode cX3_draw 0 = .ok (.aload_n 0, 1) := by decide +kernel
theorem dX3_draw_1 : decode cX3_draw 1 = .ok (.iload_n 1, 1) := by decide +kernel
theorem dX3_draw_2 : decode cX3_draw 2 = .ok (.invokevirtual 105, 3) := by decide +kernel
theorem dX3_draw_5 : decode cX3_draw 5 = .ok (.astore_n 3, 1) := by decide +kernel
theorem dX3_draw_6 : decode cX3_draw 6 = .ok (.aload_n 3, 1) := by decide +kernel
theorem dX3_draw_7 : decode cX3_draw 7 = .ok (.ifnonnull 13, 3) := by decide +kernel
theorem dX3_draw_10 : decode cX3_draw 10 = .ok (.new 52, 3) := by decide +kernel
theorem dX3_draw_13 : decode cX3_draw 13 = .ok (.dup, 1) := by decide +kernel
theorem dX3_draw_14 : decode cX3_draw 14 = .ok (.ldc 109, 2) := by decide +kernel
theorem dX3_draw_16 : decode cX3_draw 16 = .ok (.invokespecial 56, 3) := by decide +kernel
theorem dX3_draw_19 : decode cX3_draw 19 = .ok (.athrow, 1) := by decide +kernel
theorem dX3_draw_20 : decode cX3_draw 20 = .ok (.iload_n 2, 1) := by decide +kernel
theorem dX3_draw_21 : decode cX3_draw 21 = .ok (.ldc 111, 2) := by decide +kernel
theorem dX3_draw_23 : decode cX3_draw 23 = .ok (.ldc 112, 2) := by decide +kernel
theorem dX3_draw_25 : decode cX3_draw 25 = .ok (.invokestatic 59, 3) := by decide +kernel
theorem dX3_draw_28 : decode cX3_draw 28 = .ok (.ifCond .ne 13, 3) := by decide +kernel
theorem dX3_draw_31 : decode cX3_draw 31 = .ok (.new 63, 3) := by decide +kernel
theorem dX3_draw_34 : decode cX3_draw 34 = .ok (.dup, 1) := by decide +kernel
theorem dX3_draw_35 : decode cX3_draw 35 = .ok (.ldc 79, 2) := by decide +kernel
theorem dX3_draw_37 : decode cX3_draw 37 = .ok (.invokespecial 67, 3) := by decide +kernel
theorem dX3_draw_40 : decode cX3_draw 40 = .ok (.athrow, 1) := by decide +kernel
theorem dX3_draw_41 : decode cX3_draw 41 = .ok (.aload_n 3, 1) := by decide +kernel
theorem dX3_draw_42 : decode cX3_draw 42 = .ok (.getfield 113, 3) := by decide +kernel
theorem dX3_draw_45 : decode cX3_draw 45 = .ok (.iload_n 2, 1) := by decide +kernel
theorem dX3_draw_46 : decode cX3_draw 46 = .ok (.iadd, 1) := by decide +kernel
theorem dX3_draw_47 : decode cX3_draw 47 = .ok (.istore 4, 2) := by decide +kernel
theorem dX3_draw_49 : decode cX3_draw 49 = .ok (.aload_n 3, 1) := by decide +kernel
theorem dX3_draw_50 : decode cX3_draw 50 = .ok (.getfield 116, 3) := by decide +kernel
theorem dX3_draw_53 : decode cX3_draw 53 = .ok (.iload_n 2, 1) := by decide +kernel
theorem dX3_draw_54 : decode cX3_draw 54 = .ok (.isub, 1) := by decide +kernel
theorem dX3_draw_55 : decode cX3_draw 55 = .ok (.istore 5, 2) := by decide +kernel
theorem dX3_draw_57 : decode cX3_draw 57 = .ok (.iload 4, 2) := by decide +kernel
theorem dX3_draw_59 : decode cX3_draw 59 = .ok (.invokestatic 86, 3) := by decide +kernel
theorem dX3_draw_62 : decode cX3_draw 62 = .ok (.ifCond .eq 11, 3) := by decide +kernel
theorem dX3_draw_65 : decode cX3_draw 65 = .ok (.iload 5, 2) := by decide +kernel
theorem dX3_draw_67 : decode cX3_draw 67 = .ok (.invokestatic 86, 3) := by decide +kernel
theorem dX3_draw_70 : decode cX3_draw 70 = .ok (.ifCond .ne 13, 3) := by decide +kernel
theorem dX3_draw_73 : decode cX3_draw 73 = .ok (.new 97, 3) := by decide +kernel
theorem dX3_draw_76 : decode cX3_draw 76 = .ok (.dup, 1) := by decide +kernel
theorem dX3_draw_77 : decode cX3_draw 77 = .ok (.ldc 119, 2) := by decide +kernel
theorem dX3_draw_79 : decode cX3_draw 79 = .ok (.invokespecial 101, 3) := by decide +kernel
theorem dX3_draw_82 : decode cX3_draw 82 = .ok (.athrow, 1) := by decide +kernel
theorem dX3_draw_83 : decode cX3_draw 83 = .ok (.aload_n 3, 1) := by decide +kernel
theorem dX3_draw_84 : decode cX3_draw 84 = .ok (.iload 4, 2) := by decide +kernel
theorem dX3_draw_86 : decode cX3_draw 86 = .ok (.putfield 113, 3) := by decide +kernel
theorem dX3_draw_89 : decode cX3_draw 89 = .ok (.aload_n 3, 1) := by decide +kernel
theorem dX3_draw_90 : decode cX3_draw 90 = .ok (.iload 5, 2) := by decide +kernel
theorem dX3_draw_92 : decode cX3_draw 92 = .ok (.putfield 116, 3) := by decide +kernel
theorem dX3_draw_95 : decode cX3_draw 95 = .ok (.iload 4, 2) := by decide +kernel
theorem dX3_draw_97 : decode cX3_draw 97 = .ok (.ireturn, 1) := by decide +kernel
set_option maxRecDepth 20000 in
theorem ggX3_setClass_X3_exposureAt : GoodIn wsX3_setClass wsX3_exposureAt := goodIn_r _ [7, 8, 23, 24, 25, 26, 27, 28, 29, 30, 31] (by decide +kernel) (by decide +kernel)
set_option maxRecDepth 20000 in
theorem gX3_setClass_X3_exposureAt : GoodIn wsX3_setClass (wsV RX3 105 RX3 yX3_exposureAt wsX3_exposureAt) := goodIn_app (goodIn_of _ (by decide +kernel)) ggX3_setClass_X3_exposureAt
set_option maxRecDepth 20000 in
theorem ggX3_setClass_X3_isClass : GoodIn wsX3_setClass wsX3_isClass := goodIn_r _ [11, 12, 13, 6, 14] (by decide +kernel) (by decide +kernel)
set_option maxRecDepth 20000 in
theorem gX3_setClass_X3_isClass : GoodIn wsX3_setClass (va_wsS RX3 48 yX3_isClass wsX3_isClass) := goodIn_app (goodIn_of _ (by decide +kernel)) ggX3_setClass_X3_isClass
theorem dX3_setClass_0 : decode cX3_setClass 0 = .ok (.aload_n 0, 1) := by decide +kernel
theorem dX3_setClass_1 : decode cX3_setClass 1 = .ok (.iload_n 1, 1) := by decide +kernel
theorem dX3_setClass_2 : decode cX3_setClass 2 = .ok (.invokevirtual 105, 3) := by decide +kernel
theorem dX3_setClass_5 : decode cX3_setClass 5 = .ok (.astore_n 3, 1) := by decide +kernel
theorem dX3_setClass_6 : decode cX3_setClass 6 = .ok (.aload_n 3, 1) := by decide +kernel
theorem dX3_setClass_7 : decode cX3_setClass 7 = .ok (.ifnull 10, 3) := by decide +kernel
theorem dX3_setClass_10 : decode cX3_setClass 10 = .ok (.iload_n 2, 1) := by decide +kernel
theorem dX3_setClass_11 : decode cX3_setClass 11 = .ok (.invokestatic 48, 3) := by decide +kernel
theorem dX3_setClass_14 : decode cX3_setClass 14 = .ok (.ifCond .ne 13, 3) := by decide +kernel
theorem dX3_setClass_17 : decode cX3_setClass 17 = .ok (.new 52, 3) := by decide +kernel
theorem dX3_setClass_20 : decode cX3_setClass 20 = .ok (.dup, 1) := by decide +kernel
theorem dX3_setClass_21 : decode cX3_setClass 21 = .ok (.ldc 121, 2) := by decide +kernel
theorem dX3_setClass_23 : decode cX3_setClass 23 = .ok (.invokespecial 56, 3) := by decide +kernel
theorem dX3_setClass_26 : decode cX3_setClass 26 = .ok (.athrow, 1) := by decide +kernel
theorem dX3_setClass_27 : decode cX3_setClass 27 = .ok (.aload_n 3, 1) := by decide +kernel
theorem dX3_setClass_28 : decode cX3_setClass 28 = .ok (.getfield 123, 3) := by decide +kernel
theorem dX3_setClass_31 : decode cX3_setClass 31 = .ok (.istore 4, 2) := by decide +kernel
theorem dX3_setClass_33 : decode cX3_setClass 33 = .ok (.aload_n 3, 1) := by decide +kernel
theorem dX3_setClass_34 : decode cX3_setClass 34 = .ok (.iload_n 2, 1) := by decide +kernel
theorem dX3_setClass_35 : decode cX3_setClass 35 = .ok (.putfield 123, 3) := by decide +kernel
theorem dX3_setClass_38 : decode cX3_setClass 38 = .ok (.iload 4, 2) := by decide +kernel
theorem dX3_setClass_40 : decode cX3_setClass 40 = .ok (.ireturn, 1) := by decide +kernel
set_option maxRecDepth 20000 in
theorem ggX3_guarantee_X3_exposureAt : GoodIn wsX3_guarantee wsX3_exposureAt := goodIn_r _ [9, 10, 29, 30, 31, 32, 33, 34, 35, 36, 37] (by decide +kernel) (by decide +kernel)
set_option maxRecDepth 20000 in
theorem gX3_guarantee_X3_exposureAt : GoodIn wsX3_guarantee (wsV RX3 105 RX3 yX3_exposureAt wsX3_exposureAt) := goodIn_app (goodIn_of _ (by decide +kernel)) ggX3_guarantee_X3_exposureAt
set_option maxRecDepth 20000 in
theorem ggX3_guarantee_X3_isClass : GoodIn wsX3_guarantee wsX3_isClass := goodIn_r _ [13, 14, 15, 8, 16] (by decide +kernel) (by decide +kernel)
set_option maxRecDepth 20000 in
theorem gX3_guarantee_X3_isClass : GoodIn wsX3_guarantee (va_wsS RX3 48 yX3_isClass wsX3_isClass) := goodIn_app (goodIn_of _ (by decide +kernel)) ggX3_guarantee_X3_isClass
set_option maxRecDepth 20000 in
theorem ggX3_guarantee_X3_isPart : GoodIn wsX3_guarantee wsX3_isPart := goodIn_r _ [19, 20, 14, 15, 8, 16] (by decide +kernel) (by decide +kernel)
set_option maxRecDepth 20000 in
theorem gX3_guarantee_X3_isPart : GoodIn wsX3_guarantee (va_wsS RX3 86 yX3_isPart wsX3_isPart) := goodIn_app (goodIn_of _ (by decide +kernel)) ggX3_guarantee_X3_isPart
theorem dX3_guarantee_0 : decode cX3_guarantee 0 = .ok (.aload_n 0, 1) := by decide +kernel
theorem dX3_guarantee_1 : decode cX3_guarantee 1 = .ok (.iload_n 1, 1) := by decide +kernel
theorem dX3_guarantee_2 : decode cX3_guarantee 2 = .ok (.invokevirtual 105, 3) := by decide +kernel
theorem dX3_guarantee_5 : decode cX3_guarantee 5 = .ok (.astore 4, 2) := by decide +kernel
theorem dX3_guarantee_7 : decode cX3_guarantee 7 = .ok (.aload 4, 2) := by decide +kernel
theorem dX3_guarantee_9 : decode cX3_guarantee 9 = .ok (.ifnull 10, 3) := by decide +kernel
theorem dX3_guarantee_12 : decode cX3_guarantee 12 = .ok (.iload_n 2, 1) := by decide +kernel
theorem dX3_guarantee_13 : decode cX3_guarantee 13 = .ok (.invokestatic 48, 3) := by decide +kernel
theorem dX3_guarantee_16 : decode cX3_guarantee 16 = .ok (.ifCond .ne 13, 3) := by decide +kernel
theorem dX3_guarantee_19 : decode cX3_guarantee 19 = .ok (.new 52, 3) := by decide +kernel
theorem dX3_guarantee_22 : decode cX3_guarantee 22 = .ok (.dup, 1) := by decide +kernel
theorem dX3_guarantee_23 : decode cX3_guarantee 23 = .ok (.ldc 121, 2) := by decide +kernel
theorem dX3_guarantee_25 : decode cX3_guarantee 25 = .ok (.invokespecial 56, 3) := by decide +kernel
theorem dX3_guarantee_28 : decode cX3_guarantee 28 = .ok (.athrow, 1) := by decide +kernel
theorem dX3_guarantee_29 : decode cX3_guarantee 29 = .ok (.iload_n 3, 1) := by decide +kernel
theorem dX3_guarantee_30 : decode cX3_guarantee 30 = .ok (.invokestatic 86, 3) := by decide +kernel
theorem dX3_guarantee_33 : decode cX3_guarantee 33 = .ok (.ifCond .ne 13, 3) := by decide +kernel
theorem dX3_guarantee_36 : decode cX3_guarantee 36 = .ok (.new 63, 3) := by decide +kernel
theorem dX3_guarantee_39 : decode cX3_guarantee 39 = .ok (.dup, 1) := by decide +kernel
theorem dX3_guarantee_40 : decode cX3_guarantee 40 = .ok (.ldc 79, 2) := by decide +kernel
theorem dX3_guarantee_42 : decode cX3_guarantee 42 = .ok (.invokespecial 67, 3) := by decide +kernel
theorem dX3_guarantee_45 : decode cX3_guarantee 45 = .ok (.athrow, 1) := by decide +kernel
theorem dX3_guarantee_46 : decode cX3_guarantee 46 = .ok (.aload 4, 2) := by decide +kernel
theorem dX3_guarantee_48 : decode cX3_guarantee 48 = .ok (.getfield 126, 3) := by decide +kernel
theorem dX3_guarantee_51 : decode cX3_guarantee 51 = .ok (.istore 5, 2) := by decide +kernel
theorem dX3_guarantee_53 : decode cX3_guarantee 53 = .ok (.aload 4, 2) := by decide +kernel
theorem dX3_guarantee_55 : decode cX3_guarantee 55 = .ok (.iload_n 2, 1) := by decide +kernel
theorem dX3_guarantee_56 : decode cX3_guarantee 56 = .ok (.putfield 129, 3) := by decide +kernel
theorem dX3_guarantee_59 : decode cX3_guarantee 59 = .ok (.aload 4, 2) := by decide +kernel
theorem dX3_guarantee_61 : decode cX3_guarantee 61 = .ok (.iload_n 3, 1) := by decide +kernel
theorem dX3_guarantee_62 : decode cX3_guarantee 62 = .ok (.putfield 126, 3) := by decide +kernel
theorem dX3_guarantee_65 : decode cX3_guarantee 65 = .ok (.iload 5, 2) := by decide +kernel
theorem dX3_guarantee_67 : decode cX3_guarantee 67 = .ok (.ireturn, 1) := by decide +kernel
theorem dX3_exposures_0 : decode cX3_exposures 0 = .ok (.aload_n 0, 1) := by decide +kernel
theorem dX3_exposures_1 : decode cX3_exposures 1 = .ok (.getfield 35, 3) := by decide +kernel
theorem dX3_exposures_4 : decode cX3_exposures 4 = .ok (.ireturn, 1) := by decide +kernel
set_option maxRecDepth 20000 in
theorem ggX3_amount_X3_exposureAt : GoodIn wsX3_amount wsX3_exposureAt := goodIn_r _ [7, 8, 18, 19, 20, 21, 22, 23, 24, 25, 26] (by decide +kernel) (by decide +kernel)
set_option maxRecDepth 20000 in
theorem gX3_amount_X3_exposureAt : GoodIn wsX3_amount (wsV RX3 105 RX3 yX3_exposureAt wsX3_exposureAt) := goodIn_app (goodIn_of _ (by decide +kernel)) ggX3_amount_X3_exposureAt
set_option maxRecDepth 20000 in
theorem ggX3_amount_X0_amountNow : GoodIn wsX3_amount wsX0_amountNow := goodIn_r _ [12, 13, 14, 15, 6, 16, 17, 27, 28, 29, 30, 31, 32, 33, 34] (by decide +kernel) (by decide +kernel)
set_option maxRecDepth 20000 in
theorem gX3_amount_X0_amountNow_n132 : GoodIn wsX3_amount (wsX0_amountNow) := ggX3_amount_X0_amountNow
theorem dX3_amount_0 : decode cX3_amount 0 = .ok (.aload_n 0, 1) := by decide +kernel
theorem dX3_amount_1 : decode cX3_amount 1 = .ok (.iload_n 1, 1) := by decide +kernel
theorem dX3_amount_2 : decode cX3_amount 2 = .ok (.invokevirtual 105, 3) := by decide +kernel
theorem dX3_amount_5 : decode cX3_amount 5 = .ok (.astore_n 2, 1) := by decide +kernel
theorem dX3_amount_6 : decode cX3_amount 6 = .ok (.aload_n 2, 1) := by decide +kernel
theorem dX3_amount_7 : decode cX3_amount 7 = .ok (.ifnonnull 13, 3) := by decide +kernel
theorem dX3_amount_10 : decode cX3_amount 10 = .ok (.new 52, 3) := by decide +kernel
theorem dX3_amount_13 : decode cX3_amount 13 = .ok (.dup, 1) := by decide +kernel
theorem dX3_amount_14 : decode cX3_amount 14 = .ok (.ldc 109, 2) := by decide +kernel
theorem dX3_amount_16 : decode cX3_amount 16 = .ok (.invokespecial 56, 3) := by decide +kernel
theorem dX3_amount_19 : decode cX3_amount 19 = .ok (.athrow, 1) := by decide +kernel
theorem dX3_amount_20 : decode cX3_amount 20 = .ok (.aload_n 2, 1) := by decide +kernel
theorem dX3_amount_21 : decode cX3_amount 21 = .ok (.invokevirtual 132, 3) := by decide +kernel
theorem dX3_amount_24 : decode cX3_amount 24 = .ok (.ireturn, 1) := by decide +kernel
set_option maxRecDepth 20000 in
theorem ggX3_addPiece_X3_isPieceSum : GoodIn wsX3_addPiece wsX3_isPieceSum := goodIn_r _ [13, 14, 15, 16, 12, 17] (by decide +kernel) (by decide +kernel)
set_option maxRecDepth 20000 in
theorem gX3_addPiece_X3_isPieceSum : GoodIn wsX3_addPiece (va_wsS RX3 136 yX3_isPieceSum wsX3_isPieceSum) := goodIn_app (goodIn_of _ (by decide +kernel)) ggX3_addPiece_X3_isPieceSum
set_option maxRecDepth 20000 in
theorem ggX3_addPiece_X3_isWithin : GoodIn wsX3_addPiece wsX3_isWithin := goodIn_r _ [17] (by decide +kernel) (by decide +kernel)
set_option maxRecDepth 20000 in
theorem gX3_addPiece_X3_isWithin : GoodIn wsX3_addPiece (va_wsS RX3 59 yX3_isWithin wsX3_isWithin) := goodIn_app (goodIn_of _ (by decide +kernel)) ggX3_addPiece_X3_isWithin
set_option maxRecDepth 20000 in
theorem ggX3_addPiece_X3_isCurrency : GoodIn wsX3_addPiece wsX3_isCurrency := goodIn_r _ [20, 15, 16, 12, 17] (by decide +kernel) (by decide +kernel)
set_option maxRecDepth 20000 in
theorem gX3_addPiece_X3_isCurrency : GoodIn wsX3_addPiece (va_wsS RX3 89 yX3_isCurrency wsX3_isCurrency) := goodIn_app (goodIn_of _ (by decide +kernel)) ggX3_addPiece_X3_isCurrency
set_option maxRecDepth 20000 in
theorem ggX3_addPiece_X3_isDays : GoodIn wsX3_addPiece wsX3_isDays := goodIn_r _ [23, 15, 16, 12, 17] (by decide +kernel) (by decide +kernel)
set_option maxRecDepth 20000 in
theorem gX3_addPiece_X3_isDays : GoodIn wsX3_addPiece (va_wsS RX3 92 yX3_isDays wsX3_isDays) := goodIn_app (goodIn_of _ (by decide +kernel)) ggX3_addPiece_X3_isDays
set_option maxRecDepth 20000 in
theorem ggX3_addPiece_X3_isUses : GoodIn wsX3_addPiece wsX3_isUses := goodIn_r _ [26, 15, 16, 12, 17] (by decide +kernel) (by decide +kernel)
set_option maxRecDepth 20000 in
theorem gX3_addPiece_X3_isUses : GoodIn wsX3_addPiece (va_wsS RX3 139 yX3_isUses wsX3_isUses) := goodIn_app (goodIn_of _ (by decide +kernel)) ggX3_addPiece_X3_isUses
set_option maxRecDepth 20000 in
theorem ggX3_addPiece_X1_init : GoodIn wsX3_addPiece wsX1_init := goodIn_r _ [28, 29, 30, 31, 32, 33, 34, 35, 36, 46, 47, 48, 49, 50] (by decide +kernel) (by decide +kernel)
set_option maxRecDepth 20000 in
theorem gX3_addPiece_X1_init_n146 : GoodIn wsX3_addPiece (wsX1_init) := ggX3_addPiece_X1_init
theorem dX3_addPiece_0 : decode cX3_addPiece 0 = .ok (.iload_n 1, 1) := by decide +kernel
theorem dX3_addPiece_1 : decode cX3_addPiece 1 = .ok (.invokestatic 136, 3) := by decide +kernel
theorem dX3_addPiece_4 : decode cX3_addPiece 4 = .ok (.ifCond .eq 36, 3) := by decide +kernel
theorem dX3_addPiece_7 : decode cX3_addPiece 7 = .ok (.iload_n 2, 1) := by decide +kernel
theorem dX3_addPiece_8 : decode cX3_addPiece 8 = .ok (.iconst 0, 1) := by decide +kernel
theorem dX3_addPiece_9 : decode cX3_addPiece 9 = .ok (.bipush 100, 2) := by decide +kernel
theorem dX3_addPiece_11 : decode cX3_addPiece 11 = .ok (.invokestatic 59, 3) := by decide +kernel
theorem dX3_addPiece_14 : decode cX3_addPiece 14 = .ok (.ifCond .eq 26, 3) := by decide +kernel
theorem dX3_addPiece_17 : decode cX3_addPiece 17 = .ok (.iload_n 3, 1) := by decide +kernel
theorem dX3_addPiece_18 : decode cX3_addPiece 18 = .ok (.invokestatic 89, 3) := by decide +kernel
theorem dX3_addPiece_21 : decode cX3_addPiece 21 = .ok (.ifCond .eq 19, 3) := by decide +kernel
theorem dX3_addPiece_24 : decode cX3_addPiece 24 = .ok (.iload 4, 2) := by decide +kernel
theorem dX3_addPiece_26 : decode cX3_addPiece 26 = .ok (.invokestatic 92, 3) := by decide +kernel
theorem dX3_addPiece_29 : decode cX3_addPiece 29 = .ok (.ifCond .eq 11, 3) := by decide +kernel
theorem dX3_addPiece_32 : decode cX3_addPiece 32 = .ok (.iload 5, 2) := by decide +kernel
theorem dX3_addPiece_34 : decode cX3_addPiece 34 = .ok (.invokestatic 139, 3) := by decide +kernel
theorem dX3_addPiece_37 : decode cX3_addPiece 37 = .ok (.ifCond .ne 13, 3) := by decide +kernel
theorem dX3_addPiece_40 : decode cX3_addPiece 40 = .ok (.new 63, 3) := by decide +kernel
theorem dX3_addPiece_43 : decode cX3_addPiece 43 = .ok (.dup, 1) := by decide +kernel
theorem dX3_addPiece_44 : decode cX3_addPiece 44 = .ok (.ldc 142, 2) := by decide +kernel
theorem dX3_addPiece_46 : decode cX3_addPiece 46 = .ok (.invokespecial 67, 3) := by decide +kernel
theorem dX3_addPiece_49 : decode cX3_addPiece 49 = .ok (.athrow, 1) := by decide +kernel
theorem dX3_addPiece_50 : decode cX3_addPiece 50 = .ok (.aload_n 0, 1) := by decide +kernel
theorem dX3_addPiece_51 : decode cX3_addPiece 51 = .ok (.getfield 39, 3) := by decide +kernel
theorem dX3_addPiece_54 : decode cX3_addPiece 54 = .ok (.istore 6, 2) := by decide +kernel
theorem dX3_addPiece_56 : decode cX3_addPiece 56 = .ok (.iload 6, 2) := by decide +kernel
theorem dX3_addPiece_58 : decode cX3_addPiece 58 = .ok (.ifCond .lt 13, 3) := by decide +kernel
theorem dX3_addPiece_61 : decode cX3_addPiece 61 = .ok (.iload 6, 2) := by decide +kernel
theorem dX3_addPiece_63 : decode cX3_addPiece 63 = .ok (.aload_n 0, 1) := by decide +kernel
theorem dX3_addPiece_64 : decode cX3_addPiece 64 = .ok (.getfield 24, 3) := by decide +kernel
theorem dX3_addPiece_67 : decode cX3_addPiece 67 = .ok (.arraylength, 1) := by decide +kernel
theorem dX3_addPiece_68 : decode cX3_addPiece 68 = .ok (.if_icmp .lt 13, 3) := by decide +kernel
theorem dX3_addPiece_71 : decode cX3_addPiece 71 = .ok (.new 97, 3) := by decide +kernel
theorem dX3_addPiece_74 : decode cX3_addPiece 74 = .ok (.dup, 1) := by decide +kernel
theorem dX3_addPiece_75 : decode cX3_addPiece 75 = .ok (.ldc 144, 2) := by decide +kernel
theorem dX3_addPiece_77 : decode cX3_addPiece 77 = .ok (.invokespecial 101, 3) := by decide +kernel
theorem dX3_addPiece_80 : decode cX3_addPiece 80 = .ok (.athrow, 1) := by decide +kernel
theorem dX3_addPiece_81 : decode cX3_addPiece 81 = .ok (.aload_n 0, 1) := by decide +kernel
theorem dX3_addPiece_82 : decode cX3_addPiece 82 = .ok (.getfield 24, 3) := by decide +kernel
theorem dX3_addPiece_85 : decode cX3_addPiece 85 = .ok (.iload 6, 2) := by decide +kernel
theorem dX3_addPiece_87 : decode cX3_addPiece 87 = .ok (.new 22, 3) := by decide +kernel
theorem dX3_addPiece_90 : decode cX3_addPiece 90 = .ok (.dup, 1) := by decide +kernel
theorem dX3_addPiece_91 : decode cX3_addPiece 91 = .ok (.iload_n 1, 1) := by decide +kernel
theorem dX3_addPiece_92 : decode cX3_addPiece 92 = .ok (.iload_n 2, 1) := by decide +kernel
theorem dX3_addPiece_93 : decode cX3_addPiece 93 = .ok (.iload_n 3, 1) := by decide +kernel
theorem dX3_addPiece_94 : decode cX3_addPiece 94 = .ok (.iload 4, 2) := by decide +kernel
theorem dX3_addPiece_96 : decode cX3_addPiece 96 = .ok (.iload 5, 2) := by decide +kernel
theorem dX3_addPiece_98 : decode cX3_addPiece 98 = .ok (.invokespecial 146, 3) := by decide +kernel
theorem dX3_addPiece_101 : decode cX3_addPiece 101 = .ok (.aastore, 1) := by decide +kernel
theorem dX3_addPiece_102 : decode cX3_addPiece 102 = .ok (.aload_n 0, 1) := by decide +kernel
theorem dX3_addPiece_103 : decode cX3_addPiece 103 = .ok (.iload 6, 2) := by decide +kernel
theorem dX3_addPiece_105 : decode cX3_addPiece 105 = .ok (.iconst 1, 1) := by decide +kernel
theorem dX3_addPiece_106 : decode cX3_addPiece 106 = .ok (.iadd, 1) := by decide +kernel
theorem dX3_addPiece_107 : decode cX3_addPiece 107 = .ok (.putfield 39, 3) := by decide +kernel
theorem dX3_addPiece_110 : decode cX3_addPiece 110 = .ok (.iload 6, 2) := by decide +kernel
theorem dX3_addPiece_112 : decode cX3_addPiece 112 = .ok (.ireturn, 1) := by decide +kernel
set_option maxRecDepth 20000 in
theorem ggX3_setPiece_X3_pieceAt : GoodIn wsX3_setPiece wsX3_pieceAt := goodIn_r _ [9, 10, 26, 27, 28, 29, 30, 31, 32, 33, 34] (by decide +kernel) (by decide +kernel)
set_option maxRecDepth 20000 in
theorem gX3_setPiece_X3_pieceAt : GoodIn wsX3_setPiece (wsV RX3 149 RX3 yX3_pieceAt wsX3_pieceAt) := goodIn_app (goodIn_of _ (by decide +kernel)) ggX3_setPiece_X3_pieceAt
set_option maxRecDepth 20000 in
theorem ggX3_setPiece_X3_isPieceSum : GoodIn wsX3_setPiece wsX3_isPieceSum := goodIn_r _ [13, 14, 15, 16, 8, 17] (by decide +kernel) (by decide +kernel)
set_option maxRecDepth 20000 in
theorem gX3_setPiece_X3_isPieceSum : GoodIn wsX3_setPiece (va_wsS RX3 136 yX3_isPieceSum wsX3_isPieceSum) := goodIn_app (goodIn_of _ (by decide +kernel)) ggX3_setPiece_X3_isPieceSum
set_option maxRecDepth 20000 in
theorem ggX3_setPiece_X3_isUses : GoodIn wsX3_setPiece wsX3_isUses := goodIn_r _ [20, 15, 16, 8, 17] (by decide +kernel) (by decide +kernel)
set_option maxRecDepth 20000 in
theorem gX3_setPiece_X3_isUses : GoodIn wsX3_setPiece (va_wsS RX3 139 yX3_isUses wsX3_isUses) := goodIn_app (goodIn_of _ (by decide +kernel)) ggX3_setPiece_X3_isUses
theorem dX3_setPiece_0 : decode cX3_setPiece 0 = .ok (.aload_n 0, 1) := by decide +kernel
theorem dX3_setPiece_1 : decode cX3_setPiece 1 = .ok (.iload_n 1, 1) := by decide +kernel
theorem dX3_setPiece_2 : decode cX3_setPiece 2 = .ok (.invokevirtual 149, 3) := by decide +kernel
theorem dX3_setPiece_5 : decode cX3_setPiece 5 = .ok (.astore 4, 2) := by decide +kernel
theorem dX3_setPiece_7 : decode cX3_setPiece 7 = .ok (.aload 4, 2) := by decide +kernel
theorem dX3_setPiece_9 : decode cX3_setPiece 9 = .ok (.ifnonnull 13, 3) := by decide +kernel
theorem dX3_setPiece_12 : decode cX3_setPiece 12 = .ok (.new 52, 3) := by decide +kernel
theorem dX3_setPiece_15 : decode cX3_setPiece 15 = .ok (.dup, 1) := by decide +kernel
theorem dX3_setPiece_16 : decode cX3_setPiece 16 = .ok (.ldc 153, 2) := by decide +kernel
theorem dX3_setPiece_18 : decode cX3_setPiece 18 = .ok (.invokespecial 56, 3) := by decide +kernel
theorem dX3_setPiece_21 : decode cX3_setPiece 21 = .ok (.athrow, 1) := by decide +kernel
theorem dX3_setPiece_22 : decode cX3_setPiece 22 = .ok (.iload_n 2, 1) := by decide +kernel
theorem dX3_setPiece_23 : decode cX3_setPiece 23 = .ok (.invokestatic 136, 3) := by decide +kernel
theorem dX3_setPiece_26 : decode cX3_setPiece 26 = .ok (.ifCond .eq 10, 3) := by decide +kernel
theorem dX3_setPiece_29 : decode cX3_setPiece 29 = .ok (.iload_n 3, 1) := by decide +kernel
theorem dX3_setPiece_30 : decode cX3_setPiece 30 = .ok (.invokestatic 139, 3) := by decide +kernel
theorem dX3_setPiece_33 : decode cX3_setPiece 33 = .ok (.ifCond .ne 13, 3) := by decide +kernel
theorem dX3_setPiece_36 : decode cX3_setPiece 36 = .ok (.new 63, 3) := by decide +kernel
theorem dX3_setPiece_39 : decode cX3_setPiece 39 = .ok (.dup, 1) := by decide +kernel
theorem dX3_setPiece_40 : decode cX3_setPiece 40 = .ok (.ldc 155, 2) := by decide +kernel
theorem dX3_setPiece_42 : decode cX3_setPiece 42 = .ok (.invokespecial 67, 3) := by decide +kernel
theorem dX3_setPiece_45 : decode cX3_setPiece 45 = .ok (.athrow, 1) := by decide +kernel
theorem dX3_setPiece_46 : decode cX3_setPiece 46 = .ok (.aload 4, 2) := by decide +kernel
theorem dX3_setPiece_48 : decode cX3_setPiece 48 = .ok (.getfield 157, 3) := by decide +kernel
theorem dX3_setPiece_51 : decode cX3_setPiece 51 = .ok (.istore 5, 2) := by decide +kernel
theorem dX3_setPiece_53 : decode cX3_setPiece 53 = .ok (.aload 4, 2) := by decide +kernel
theorem dX3_setPiece_55 : decode cX3_setPiece 55 = .ok (.iload_n 2, 1) := by decide +kernel
theorem dX3_setPiece_56 : decode cX3_setPiece 56 = .ok (.putfield 157, 3) := by decide +kernel
theorem dX3_setPiece_59 : decode cX3_setPiece 59 = .ok (.aload 4, 2) := by decide +kernel
theorem dX3_setPiece_61 : decode cX3_setPiece 61 = .ok (.iload_n 3, 1) := by decide +kernel
theorem dX3_setPiece_62 : decode cX3_setPiece 62 = .ok (.putfield 160, 3) := by decide +kernel
theorem dX3_setPiece_65 : decode cX3_setPiece 65 = .ok (.iload 5, 2) := by decide +kernel
theorem dX3_setPiece_67 : decode cX3_setPiece 67 = .ok (.ireturn, 1) := by decide +kernel
theorem dX3_pieces_0 : decode cX3_pieces 0 = .ok (.aload_n 0, 1) := by decide +kernel
theorem dX3_pieces_1 : decode cX3_pieces 1 = .ok (.getfield 39, 3) := by decide +kernel
theorem dX3_pieces_4 : decode cX3_pieces 4 = .ok (.ireturn, 1) := by decide +kernel
set_option maxRecDepth 20000 in
theorem ggX3_value_X3_pieceAt : GoodIn wsX3_value wsX3_pieceAt := goodIn_r _ [7, 8, 25, 26, 27, 28, 29, 30, 31, 32, 33] (by decide +kernel) (by decide +kernel)
set_option maxRecDepth 20000 in
theorem gX3_value_X3_pieceAt : GoodIn wsX3_value (wsV RX3 149 RX3 yX3_pieceAt wsX3_pieceAt) := goodIn_app (goodIn_of _ (by decide +kernel)) ggX3_value_X3_pieceAt
set_option maxRecDepth 20000 in
theorem ggX3_value_X3_exposureAt : GoodIn wsX3_value wsX3_exposureAt := goodIn_r _ [12, 13, 25, 26, 27, 28, 29, 30, 31, 32, 33] (by decide +kernel) (by decide +kernel)
set_option maxRecDepth 20000 in
theorem gX3_value_X3_exposureAt : GoodIn wsX3_value (wsV RX3 105 RX3 yX3_exposureAt wsX3_exposureAt) := goodIn_app (goodIn_of _ (by decide +kernel)) ggX3_value_X3_exposureAt
set_option maxRecDepth 20000 in
theorem ggX3_value_X1_valueFor : GoodIn wsX3_value wsX1_valueFor := goodIn_r _ [17, 18, 19, 20, 21, 22, 6, 23, 24, 34, 35, 36, 37, 38, 39, 40, 41, 42, 43, 44, 45, 46] (by decide +kernel) (by decide +kernel)
set_option maxRecDepth 20000 in
theorem gX3_value_X1_valueFor_n165 : GoodIn wsX3_value (wsX1_valueFor) := ggX3_value_X1_valueFor
theorem dX3_value_0 : decode cX3_value 0 = .ok (.aload_n 0, 1) := by decide +kernel
theorem dX3_value_1 : decode cX3_value 1 = .ok (.iload_n 1, 1) := by decide +kernel
theorem dX3_value_2 : decode cX3_value 2 = .ok (.invokevirtual 149, 3) := by decide +kernel
theorem dX3_value_5 : decode cX3_value 5 = .ok (.astore_n 3, 1) := by decide +kernel
theorem dX3_value_6 : decode cX3_value 6 = .ok (.aload_n 0, 1) := by decide +kernel
theorem dX3_value_7 : decode cX3_value 7 = .ok (.iload_n 2, 1) := by decide +kernel
theorem dX3_value_8 : decode cX3_value 8 = .ok (.invokevirtual 105, 3) := by decide +kernel
theorem dX3_value_11 : decode cX3_value 11 = .ok (.astore 4, 2) := by decide +kernel
theorem dX3_value_13 : decode cX3_value 13 = .ok (.aload_n 3, 1) := by decide +kernel
theorem dX3_value_14 : decode cX3_value 14 = .ok (.ifnull 8, 3) := by decide +kernel
theorem dX3_value_17 : decode cX3_value 17 = .ok (.aload 4, 2) := by decide +kernel
theorem dX3_value_19 : decode cX3_value 19 = .ok (.ifnonnull 13, 3) := by decide +kernel
theorem dX3_value_22 : decode cX3_value 22 = .ok (.new 52, 3) := by decide +kernel
theorem dX3_value_25 : decode cX3_value 25 = .ok (.dup, 1) := by decide +kernel
theorem dX3_value_26 : decode cX3_value 26 = .ok (.ldc 163, 2) := by decide +kernel
theorem dX3_value_28 : decode cX3_value 28 = .ok (.invokespecial 56, 3) := by decide +kernel
theorem dX3_value_31 : decode cX3_value 31 = .ok (.athrow, 1) := by decide +kernel
theorem dX3_value_32 : decode cX3_value 32 = .ok (.aload_n 3, 1) := by decide +kernel
theorem dX3_value_33 : decode cX3_value 33 = .ok (.aload 4, 2) := by decide +kernel
theorem dX3_value_35 : decode cX3_value 35 = .ok (.invokevirtual 165, 3) := by decide +kernel
theorem dX3_value_38 : decode cX3_value 38 = .ok (.ireturn, 1) := by decide +kernel
set_option maxRecDepth 20000 in
theorem ggX3_givenTo_X3_pieceAt : GoodIn wsX3_givenTo wsX3_pieceAt := goodIn_r _ [8, 9, 131, 132, 133, 134, 135, 136, 137, 138, 139] (by decide +kernel) (by decide +kernel)
set_option maxRecDepth 20000 in
theorem gX3_givenTo_X3_pieceAt : GoodIn wsX3_givenTo (wsV RX3 149 RX3 yX3_pieceAt wsX3_pieceAt) := goodIn_app (goodIn_of _ (by decide +kernel)) ggX3_givenTo_X3_pieceAt
set_option maxRecDepth 20000 in
theorem ggX3_givenTo_X3_findBest : GoodIn wsX3_givenTo wsX3_findBest := goodIn_r _ [13, 3, 14, 15, 16, 7, 17, 18, 19, 20, 21, 22, 23, 24, 25, 26, 27, 28, 29, 30, 31, 32, 33, 34, 35, 36, 37, 38, 4, 5, 6, 8, 9, 39, 40, 41, 42, 43, 44, 45, 46, 47, 48, 49, 50, 51, 52, 53, 54, 55, 56, 57, 58, 59, 60, 61, 62, 63, 64, 65, 66, 67, 68, 69, 70, 71, 72, 73, 74, 75, 76, 77, 78, 79, 80, 81, 82, 83, 84, 85, 86, 87, 88, 89, 90, 91, 92, 93, 94, 95, 96, 97, 98, 99, 100, 101, 102, 103, 104, 105, 106, 107, 108, 109, 110, 111, 112, 113, 114, 115, 116, 117, 118, 119, 131, 132, 133, 134, 135, 136, 137, 138, 139, 140, 141, 142, 143, 144, 145, 146, 147, 148, 149, 150, 151, 152, 153, 154, 155, 156, 157, 158, 159] (by decide +kernel) (by decide +kernel)
set_option maxRecDepth 20000 in
theorem gX3_givenTo_X3_findBest : GoodIn wsX3_givenTo (wsV RX3 169 RX3 yX3_findBest wsX3_findBest) := goodIn_app (goodIn_of _ (by decide +kernel)) ggX3_givenTo_X3_findBest
set_option maxRecDepth 20000 in
theorem ggX3_givenTo_X2_takerOf : GoodIn wsX3_givenTo wsX2_takerOf := goodIn_r _ [122, 123, 124, 125, 21, 126, 127, 128, 129, 130, 29, 116, 117, 118, 119, 89, 93, 94, 95, 140, 141, 142, 143, 144, 145, 146] (by decide +kernel) (by decide +kernel)
set_option maxRecDepth 20000 in
theorem gX3_givenTo_X2_takerOf_n172 : GoodIn wsX3_givenTo (wsX2_takerOf) := ggX3_givenTo_X2_takerOf
theorem dX3_givenTo_0 : decode cX3_givenTo 0 = .ok (.aload_n 0, 1) := by decide +kernel
theorem dX3_givenTo_1 : decode cX3_givenTo 1 = .ok (.iload_n 1, 1) := by decide +kernel
theorem dX3_givenTo_2 : decode cX3_givenTo 2 = .ok (.invokevirtual 149, 3) := by decide +kernel
theorem dX3_givenTo_5 : decode cX3_givenTo 5 = .ok (.ifnonnull 13, 3) := by decide +kernel
theorem dX3_givenTo_8 : decode cX3_givenTo 8 = .ok (.new 52, 3) := by decide +kernel
theorem dX3_givenTo_11 : decode cX3_givenTo 11 = .ok (.dup, 1) := by decide +kernel
theorem dX3_givenTo_12 : decode cX3_givenTo 12 = .ok (.ldc 153, 2) := by decide +kernel
theorem dX3_givenTo_14 : decode cX3_givenTo 14 = .ok (.invokespecial 56, 3) := by decide +kernel
theorem dX3_givenTo_17 : decode cX3_givenTo 17 = .ok (.athrow, 1) := by decide +kernel
theorem dX3_givenTo_18 : decode cX3_givenTo 18 = .ok (.aload_n 0, 1) := by decide +kernel
theorem dX3_givenTo_19 : decode cX3_givenTo 19 = .ok (.invokevirtual 169, 3) := by decide +kernel
theorem dX3_givenTo_22 : decode cX3_givenTo 22 = .ok (.aload_n 0, 1) := by decide +kernel
theorem dX3_givenTo_23 : decode cX3_givenTo 23 = .ok (.getfield 31, 3) := by decide +kernel
theorem dX3_givenTo_26 : decode cX3_givenTo 26 = .ok (.iload_n 1, 1) := by decide +kernel
theorem dX3_givenTo_27 : decode cX3_givenTo 27 = .ok (.invokevirtual 172, 3) := by decide +kernel
theorem dX3_givenTo_30 : decode cX3_givenTo 30 = .ok (.ireturn, 1) := by decide +kernel
set_option maxRecDepth 20000 in
theorem ggX3_bare_X3_exposureAt : GoodIn wsX3_bare wsX3_exposureAt := goodIn_r _ [8, 9, 135, 136, 137, 138, 139, 140, 141, 142, 143] (by decide +kernel) (by decide +kernel)
set_option maxRecDepth 20000 in
theorem gX3_bare_X3_exposureAt : GoodIn wsX3_bare (wsV RX3 105 RX3 yX3_exposureAt wsX3_exposureAt) := goodIn_app (goodIn_of _ (by decide +kernel)) ggX3_bare_X3_exposureAt
set_option maxRecDepth 20000 in
theorem ggX3_bare_X3_findBest : GoodIn wsX3_bare wsX3_findBest := goodIn_r _ [13, 3, 14, 15, 16, 7, 17, 18, 19, 20, 21, 22, 23, 24, 25, 26, 27, 28, 29, 4, 5, 6, 8, 9, 30, 31, 32, 33, 34, 35, 36, 37, 38, 39, 40, 41, 42, 43, 44, 45, 46, 47, 48, 49, 50, 51, 52, 53, 54, 55, 56, 57, 58, 59, 60, 61, 62, 63, 64, 65, 66, 67, 68, 69, 70, 71, 72, 73, 74, 75, 76, 77, 78, 79, 80, 81, 82, 83, 84, 85, 86, 87, 88, 89, 90, 91, 92, 93, 94, 95, 96, 97, 98, 99, 100, 101, 102, 103, 104, 105, 106, 107, 108, 109, 110, 111, 112, 113, 114, 115, 116, 117, 118, 119, 135, 136, 137, 138, 139, 140, 141, 142, 143, 144, 145, 146, 147, 148, 149, 150, 151, 152, 153, 154, 155, 156, 157, 158, 159, 160, 161, 162, 163] (by decide +kernel) (by decide +kernel)
set_option maxRecDepth 20000 in
theorem gX3_bare_X3_findBest : GoodIn wsX3_bare (wsV RX3 169 RX3 yX3_findBest wsX3_findBest) := goodIn_app (goodIn_of _ (by decide +kernel)) ggX3_bare_X3_findBest
set_option maxRecDepth 20000 in
theorem ggX3_bare_X2_givenSet : GoodIn wsX3_bare wsX2_givenSet := goodIn_r _ [122, 29, 123, 124, 125, 21, 126, 127, 128, 129, 130, 131, 132, 133, 134, 116, 117, 118, 119, 89, 93, 94, 95, 144, 145, 146, 147, 148, 149, 150] (by decide +kernel) (by decide +kernel)
set_option maxRecDepth 20000 in
theorem gX3_bare_X2_givenSet_n176 : GoodIn wsX3_bare (wsX2_givenSet) := ggX3_bare_X2_givenSet
set_option maxRecDepth 20000 in
theorem ggX3_bare_X3_bareWith : GoodIn wsX3_bare wsX3_bareWith := goodIn_r _ [51, 19, 52, 53, 26, 54, 55, 56, 57, 58, 59, 60, 61, 7, 62, 63, 34, 35, 36, 37, 38, 39, 40, 41, 64, 65, 66, 67, 68, 69, 70, 71, 135, 136, 137, 138, 139, 140, 141, 142, 143, 156, 157, 158, 159, 160, 161, 162, 163, 151, 152, 153, 154, 155] (by decide +kernel) (by decide +kernel)
set_option maxRecDepth 20000 in
theorem gX3_bare_X3_bareWith : GoodIn wsX3_bare (wsV RX3 179 RX3 yX3_bareWith wsX3_bareWith) := goodIn_app (goodIn_of _ (by decide +kernel)) ggX3_bare_X3_bareWith
theorem dX3_bare_0 : decode cX3_bare 0 = .ok (.aload_n 0, 1) := by decide +kernel
theorem dX3_bare_1 : decode cX3_bare 1 = .ok (.iload_n 1, 1) := by decide +kernel
theorem dX3_bare_2 : decode cX3_bare 2 = .ok (.invokevirtual 105, 3) := by decide +kernel
theorem dX3_bare_5 : decode cX3_bare 5 = .ok (.astore_n 2, 1) := by decide +kernel
theorem dX3_bare_6 : decode cX3_bare 6 = .ok (.aload_n 2, 1) := by decide +kernel
theorem dX3_bare_7 : decode cX3_bare 7 = .ok (.ifnonnull 13, 3) := by decide +kernel
theorem dX3_bare_10 : decode cX3_bare 10 = .ok (.new 52, 3) := by decide +kernel
theorem dX3_bare_13 : decode cX3_bare 13 = .ok (.dup, 1) := by decide +kernel
theorem dX3_bare_14 : decode cX3_bare 14 = .ok (.ldc 109, 2) := by decide +kernel
theorem dX3_bare_16 : decode cX3_bare 16 = .ok (.invokespecial 56, 3) := by decide +kernel
theorem dX3_bare_19 : decode cX3_bare 19 = .ok (.athrow, 1) := by decide +kernel
theorem dX3_bare_20 : decode cX3_bare 20 = .ok (.aload_n 0, 1) := by decide +kernel
theorem dX3_bare_21 : decode cX3_bare 21 = .ok (.invokevirtual 169, 3) := by decide +kernel
theorem dX3_bare_24 : decode cX3_bare 24 = .ok (.aload_n 0, 1) := by decide +kernel
theorem dX3_bare_25 : decode cX3_bare 25 = .ok (.aload_n 2, 1) := by decide +kernel
theorem dX3_bare_26 : decode cX3_bare 26 = .ok (.aload_n 0, 1) := by decide +kernel
theorem dX3_bare_27 : decode cX3_bare 27 = .ok (.getfield 31, 3) := by decide +kernel
theorem dX3_bare_30 : decode cX3_bare 30 = .ok (.iload_n 1, 1) := by decide +kernel
theorem dX3_bare_31 : decode cX3_bare 31 = .ok (.invokevirtual 176, 3) := by decide +kernel
theorem dX3_bare_34 : decode cX3_bare 34 = .ok (.invokevirtual 179, 3) := by decide +kernel
theorem dX3_bare_37 : decode cX3_bare 37 = .ok (.ireturn, 1) := by decide +kernel
set_option maxRecDepth 20000 in
theorem ggX3_weighted_X3_exposureAt : GoodIn wsX3_weighted wsX3_exposureAt := goodIn_r _ [8, 9, 135, 136, 137, 138, 139, 140, 141, 142, 143] (by decide +kernel) (by decide +kernel)
set_option maxRecDepth 20000 in
theorem gX3_weighted_X3_exposureAt : GoodIn wsX3_weighted (wsV RX3 105 RX3 yX3_exposureAt wsX3_exposureAt) := goodIn_app (goodIn_of _ (by decide +kernel)) ggX3_weighted_X3_exposureAt
set_option maxRecDepth 20000 in
theorem ggX3_weighted_X3_findBest : GoodIn wsX3_weighted wsX3_findBest := goodIn_r _ [13, 3, 14, 15, 16, 7, 17, 18, 19, 20, 21, 22, 23, 24, 25, 26, 27, 28, 29, 4, 5, 6, 8, 9, 30, 31, 32, 33, 34, 35, 36, 37, 38, 39, 40, 41, 42, 43, 44, 45, 46, 47, 48, 49, 50, 51, 52, 53, 54, 55, 56, 57, 58, 59, 60, 61, 62, 63, 64, 65, 66, 67, 68, 69, 70, 71, 72, 73, 74, 75, 76, 77, 78, 79, 80, 81, 82, 83, 84, 85, 86, 87, 88, 89, 90, 91, 92, 93, 94, 95, 96, 97, 98, 99, 100, 101, 102, 103, 104, 105, 106, 107, 108, 109, 110, 111, 112, 113, 114, 115, 116, 117, 118, 119, 135, 136, 137, 138, 139, 140, 141, 142, 143, 144, 145, 146, 147, 148, 149, 150, 151, 152, 153, 154, 155, 156, 157, 158, 159, 160, 161, 162, 163] (by decide +kernel) (by decide +kernel)
set_option maxRecDepth 20000 in
theorem gX3_weighted_X3_findBest : GoodIn wsX3_weighted (wsV RX3 169 RX3 yX3_findBest wsX3_findBest) := goodIn_app (goodIn_of _ (by decide +kernel)) ggX3_weighted_X3_findBest
set_option maxRecDepth 20000 in
theorem ggX3_weighted_X2_givenSet : GoodIn wsX3_weighted wsX2_givenSet := goodIn_r _ [122, 29, 123, 124, 125, 21, 126, 127, 128, 129, 130, 131, 132, 133, 134, 116, 117, 118, 119, 89, 93, 94, 95, 144, 145, 146, 147, 148, 149, 150] (by decide +kernel) (by decide +kernel)
set_option maxRecDepth 20000 in
theorem gX3_weighted_X2_givenSet_n176 : GoodIn wsX3_weighted (wsX2_givenSet) := ggX3_weighted_X2_givenSet
set_option maxRecDepth 20000 in
theorem ggX3_weighted_X3_bareWith : GoodIn wsX3_weighted wsX3_bareWith := goodIn_r _ [51, 19, 52, 53, 26, 54, 55, 56, 57, 58, 59, 60, 61, 7, 62, 63, 34, 35, 36, 37, 38, 39, 40, 41, 64, 65, 66, 67, 68, 69, 70, 71, 135, 136, 137, 138, 139, 140, 141, 142, 143, 156, 157, 158, 159, 160, 161, 162, 163, 151, 152, 153, 154, 155] (by decide +kernel) (by decide +kernel)
set_option maxRecDepth 20000 in
theorem gX3_weighted_X3_bareWith : GoodIn wsX3_weighted (wsV RX3 179 RX3 yX3_bareWith wsX3_bareWith) := goodIn_app (goodIn_of _ (by decide +kernel)) ggX3_weighted_X3_bareWith
set_option maxRecDepth 20000 in
theorem ggX3_weighted_X3_weightedOf : GoodIn wsX3_weighted wsX3_weightedOf := goodIn_r _ [75, 76, 77, 25, 26, 27, 78, 79, 7, 80, 81, 61, 62, 63, 135, 136, 137, 138, 139, 140, 141, 142, 143, 156, 157, 158, 159, 160, 161, 162, 163] (by decide +kernel) (by decide +kernel)
set_option maxRecDepth 20000 in
theorem gX3_weighted_X3_weightedOf : GoodIn wsX3_weighted (wsV RX3 183 RX3 yX3_weightedOf wsX3_weightedOf) := goodIn_app (goodIn_of _ (by decide +kernel)) ggX3_weighted_X3_weightedOf
theorem dX3_weighted_0 : decode cX3_weighted 0 = .ok (.aload_n 0, 1) := by decide +kernel
theorem dX3_weighted_1 : decode cX3_weighted 1 = .ok (.iload_n 1, 1) := by decide +kernel
theorem dX3_weighted_2 : decode cX3_weighted 2 = .ok (.invokevirtual 105, 3) := by decide +kernel
theorem dX3_weighted_5 : decode cX3_weighted 5 = .ok (.astore_n 2, 1) := by decide +kernel
theorem dX3_weighted_6 : decode cX3_weighted 6 = .ok (.aload_n 2, 1) := by decide +kernel
theorem dX3_weighted_7 : decode cX3_weighted 7 = .ok (.ifnonnull 13, 3) := by decide +kernel
theorem dX3_weighted_10 : decode cX3_weighted 10 = .ok (.new 52, 3) := by decide +kernel
theorem dX3_weighted_13 : decode cX3_weighted 13 = .ok (.dup, 1) := by decide +kernel
theorem dX3_weighted_14 : decode cX3_weighted 14 = .ok (.ldc 109, 2) := by decide +kernel
theorem dX3_weighted_16 : decode cX3_weighted 16 = .ok (.invokespecial 56, 3) := by decide +kernel
theorem dX3_weighted_19 : decode cX3_weighted 19 = .ok (.athrow, 1) := by decide +kernel
theorem dX3_weighted_20 : decode cX3_weighted 20 = .ok (.aload_n 0, 1) := by decide +kernel
theorem dX3_weighted_21 : decode cX3_weighted 21 = .ok (.invokevirtual 169, 3) := by decide +kernel
theorem dX3_weighted_24 : decode cX3_weighted 24 = .ok (.aload_n 0, 1) := by decide +kernel
theorem dX3_weighted_25 : decode cX3_weighted 25 = .ok (.aload_n 2, 1) := by decide +kernel
theorem dX3_weighted_26 : decode cX3_weighted 26 = .ok (.aload_n 0, 1) := by decide +kernel
theorem dX3_weighted_27 : decode cX3_weighted 27 = .ok (.aload_n 2, 1) := by decide +kernel
theorem dX3_weighted_28 : decode cX3_weighted 28 = .ok (.aload_n 0, 1) := by decide +kernel
theorem dX3_weighted_29 : decode cX3_weighted 29 = .ok (.getfield 31, 3) := by decide +kernel
theorem dX3_weighted_32 : decode cX3_weighted 32 = .ok (.iload_n 1, 1) := by decide +kernel
theorem dX3_weighted_33 : decode cX3_weighted 33 = .ok (.invokevirtual 176, 3) := by decide +kernel
theorem dX3_weighted_36 : decode cX3_weighted 36 = .ok (.invokevirtual 179, 3) := by decide +kernel
theorem dX3_weighted_39 : decode cX3_weighted 39 = .ok (.invokevirtual 183, 3) := by decide +kernel
theorem dX3_weighted_42 : decode cX3_weighted 42 = .ok (.ireturn, 1) := by decide +kernel
set_option maxRecDepth 20000 in
theorem ggX3_whole_X3_findBest : GoodIn wsX3_whole wsX3_findBest := goodIn_r _ [6, 1, 7, 8, 9, 5, 10, 11, 12, 13, 14, 15, 16, 17, 18, 19, 20, 21, 22, 23, 24, 25, 26, 27, 28, 29, 30, 31, 32, 33, 34, 35, 36, 37, 38, 39, 40, 41, 42, 43, 44, 45, 46, 47, 48, 49, 50, 51, 52, 53, 54, 55, 56, 57, 58, 59, 60, 61, 62, 63, 64, 65, 66, 67, 68, 69, 70, 71, 72, 73, 74, 75, 76, 77, 78, 79, 80, 81, 82, 83, 84, 85, 86, 87, 88, 89, 90, 91, 92, 93, 94, 95, 96, 97, 98, 99, 100, 101, 102, 103, 104, 105, 106, 107, 108, 109, 110, 111, 112, 113, 114, 115, 116, 117, 129, 130, 131, 132, 133, 134, 135, 136, 137, 138, 139, 140, 141, 142, 143, 144, 145, 146, 147, 148, 149, 150, 151, 152, 153, 154, 155, 156, 157] (by decide +kernel) (by decide +kernel)
set_option maxRecDepth 20000 in
theorem gX3_whole_X3_findBest : GoodIn wsX3_whole (wsV RX3 169 RX3 yX3_findBest wsX3_findBest) := goodIn_app (goodIn_of _ (by decide +kernel)) ggX3_whole_X3_findBest
set_option maxRecDepth 20000 in
theorem ggX3_whole_X2_bestWhole : GoodIn wsX3_whole wsX2_bestWhole := goodIn_r _ [120, 121, 122, 123, 14, 124, 125, 126, 127, 128, 22, 114, 115, 116, 117, 87, 138, 139, 140, 141, 142, 143, 144] (by decide +kernel) (by decide +kernel)
set_option maxRecDepth 20000 in
theorem gX3_whole_X2_bestWhole_n186 : GoodIn wsX3_whole (wsX2_bestWhole) := ggX3_whole_X2_bestWhole
theorem dX3_whole_0 : decode cX3_whole 0 = .ok (.aload_n 0, 1) := by decide +kernel
theorem dX3_whole_1 : decode cX3_whole 1 = .ok (.invokevirtual 169, 3) := by decide +kernel
theorem dX3_whole_4 : decode cX3_whole 4 = .ok (.aload_n 0, 1) := by decide +kernel
theorem dX3_whole_5 : decode cX3_whole 5 = .ok (.getfield 31, 3) := by decide +kernel
theorem dX3_whole_8 : decode cX3_whole 8 = .ok (.invokevirtual 186, 3) := by decide +kernel
theorem dX3_whole_11 : decode cX3_whole 11 = .ok (.ireturn, 1) := by decide +kernel
set_option maxRecDepth 20000 in
theorem ggX3_wholeByTrying_X3_fillSearch : GoodIn wsX3_wholeByTrying wsX3_fillSearch := goodIn_r _ [6, 1, 7, 8, 9, 10, 11, 12, 13, 14, 15, 16, 17, 18, 19, 20, 21, 5, 22, 23, 24, 25, 26, 27, 28, 29, 30, 31, 32, 33, 34, 35, 36, 37, 38, 39, 40, 41, 42, 43, 44, 45, 46, 47, 48, 49, 50, 51, 52, 53, 54, 55, 56, 57, 58, 59, 60, 61, 62, 63, 64, 65, 66, 67, 68, 69, 70, 71, 72, 73, 74, 75, 76, 77, 78, 79, 91, 92, 93, 94, 95, 96, 97, 98, 99, 100, 101, 102, 103, 104, 105, 106, 107, 108, 109, 110, 111, 112, 113, 114, 115, 116, 117, 118, 119] (by decide +kernel) (by decide +kernel)
set_option maxRecDepth 20000 in
theorem gX3_wholeByTrying_X3_fillSearch : GoodIn wsX3_wholeByTrying (wsV RX3 189 RX3 yX3_fillSearch wsX3_fillSearch) := goodIn_app (goodIn_of _ (by decide +kernel)) ggX3_wholeByTrying_X3_fillSearch
set_option maxRecDepth 20000 in
theorem ggX3_wholeByTrying_X2_triedWhole : GoodIn wsX3_wholeByTrying wsX2_triedWhole := goodIn_r _ [82, 17, 83, 40, 5, 41, 84, 85, 86, 10, 87, 79, 73, 74, 88, 89, 90, 18, 39, 13, 14, 15, 16, 34, 35, 100, 101, 102, 103, 104, 105, 106] (by decide +kernel) (by decide +kernel)
set_option maxRecDepth 20000 in
theorem gX3_wholeByTrying_X2_triedWhole_n192 : GoodIn wsX3_wholeByTrying (wsX2_triedWhole) := ggX3_wholeByTrying_X2_triedWhole
theorem dX3_wholeByTrying_0 : decode cX3_wholeByTrying 0 = .ok (.aload_n 0, 1) := by decide +kernel
theorem dX3_wholeByTrying_1 : decode cX3_wholeByTrying 1 = .ok (.invokevirtual 189, 3) := by decide +kernel
theorem dX3_wholeByTrying_4 : decode cX3_wholeByTrying 4 = .ok (.aload_n 0, 1) := by decide +kernel
theorem dX3_wholeByTrying_5 : decode cX3_wholeByTrying 5 = .ok (.getfield 31, 3) := by decide +kernel
theorem dX3_wholeByTrying_8 : decode cX3_wholeByTrying 8 = .ok (.invokevirtual 192, 3) := by decide +kernel
theorem dX3_wholeByTrying_11 : decode cX3_wholeByTrying 11 = .ok (.ireturn, 1) := by decide +kernel
set_option maxRecDepth 20000 in
theorem ggX3_worth_X3_pieceAt : GoodIn wsX3_worth wsX3_pieceAt := goodIn_r _ [8, 9, 134, 135, 136, 137, 138, 139, 140, 141, 142] (by decide +kernel) (by decide +kernel)
set_option maxRecDepth 20000 in
theorem gX3_worth_X3_pieceAt : GoodIn wsX3_worth (wsV RX3 149 RX3 yX3_pieceAt wsX3_pieceAt) := goodIn_app (goodIn_of _ (by decide +kernel)) ggX3_worth_X3_pieceAt
set_option maxRecDepth 20000 in
theorem ggX3_worth_X3_findBest : GoodIn wsX3_worth wsX3_findBest := goodIn_r _ [13, 3, 14, 15, 16, 7, 17, 18, 19, 20, 21, 22, 23, 24, 25, 26, 27, 28, 29, 30, 31, 32, 33, 34, 35, 36, 37, 38, 4, 5, 6, 8, 9, 39, 40, 41, 42, 43, 44, 45, 46, 47, 48, 49, 50, 51, 52, 53, 54, 55, 56, 57, 58, 59, 60, 61, 62, 63, 64, 65, 66, 67, 68, 69, 70, 71, 72, 73, 74, 75, 76, 77, 78, 79, 80, 81, 82, 83, 84, 85, 86, 87, 88, 89, 90, 91, 92, 93, 94, 95, 96, 97, 98, 99, 100, 101, 102, 103, 104, 105, 106, 107, 108, 109, 110, 111, 112, 113, 114, 115, 116, 117, 118, 119, 134, 135, 136, 137, 138, 139, 140, 141, 142, 143, 144, 145, 146, 147, 148, 149, 150, 151, 152, 153, 154, 155, 156, 157, 158, 159, 160, 161, 162] (by decide +kernel) (by decide +kernel)
set_option maxRecDepth 20000 in
theorem gX3_worth_X3_findBest : GoodIn wsX3_worth (wsV RX3 169 RX3 yX3_findBest wsX3_findBest) := goodIn_app (goodIn_of _ (by decide +kernel)) ggX3_worth_X3_findBest
set_option maxRecDepth 20000 in
theorem ggX3_worth_X2_wholeWithout : GoodIn wsX3_worth wsX2_wholeWithout := goodIn_r _ [122, 123, 124, 125, 21, 126, 29, 116, 117, 118, 119, 89, 143, 144, 145, 146, 147, 148, 149] (by decide +kernel) (by decide +kernel)
set_option maxRecDepth 20000 in
theorem gX3_worth_X2_wholeWithout_n195 : GoodIn wsX3_worth (wsX2_wholeWithout) := ggX3_worth_X2_wholeWithout
set_option maxRecDepth 20000 in
theorem ggX3_worth_X2_bestWhole : GoodIn wsX3_worth wsX2_bestWhole := goodIn_r _ [129, 130, 131, 132, 21, 133, 123, 124, 125, 126, 29, 116, 117, 118, 119, 89, 143, 144, 145, 146, 147, 148, 149] (by decide +kernel) (by decide +kernel)
set_option maxRecDepth 20000 in
theorem gX3_worth_X2_bestWhole_n186 : GoodIn wsX3_worth (wsX2_bestWhole) := ggX3_worth_X2_bestWhole
theorem dX3_worth_0 : decode cX3_worth 0 = .ok (.aload_n 0, 1) := by decide +kernel
theorem dX3_worth_1 : decode cX3_worth 1 = .ok (.iload_n 1, 1) := by decide +kernel
theorem dX3_worth_2 : decode cX3_worth 2 = .ok (.invokevirtual 149, 3) := by decide +kernel
theorem dX3_worth_5 : decode cX3_worth 5 = .ok (.ifnonnull 13, 3) := by decide +kernel
theorem dX3_worth_8 : decode cX3_worth 8 = .ok (.new 52, 3) := by decide +kernel
theorem dX3_worth_11 : decode cX3_worth 11 = .ok (.dup, 1) := by decide +kernel
theorem dX3_worth_12 : decode cX3_worth 12 = .ok (.ldc 153, 2) := by decide +kernel
theorem dX3_worth_14 : decode cX3_worth 14 = .ok (.invokespecial 56, 3) := by decide +kernel
theorem dX3_worth_17 : decode cX3_worth 17 = .ok (.athrow, 1) := by decide +kernel
theorem dX3_worth_18 : decode cX3_worth 18 = .ok (.aload_n 0, 1) := by decide +kernel
theorem dX3_worth_19 : decode cX3_worth 19 = .ok (.invokevirtual 169, 3) := by decide +kernel
theorem dX3_worth_22 : decode cX3_worth 22 = .ok (.aload_n 0, 1) := by decide +kernel
theorem dX3_worth_23 : decode cX3_worth 23 = .ok (.getfield 31, 3) := by decide +kernel
theorem dX3_worth_26 : decode cX3_worth 26 = .ok (.iload_n 1, 1) := by decide +kernel
theorem dX3_worth_27 : decode cX3_worth 27 = .ok (.invokevirtual 195, 3) := by decide +kernel
theorem dX3_worth_30 : decode cX3_worth 30 = .ok (.aload_n 0, 1) := by decide +kernel
theorem dX3_worth_31 : decode cX3_worth 31 = .ok (.getfield 31, 3) := by decide +kernel
theorem dX3_worth_34 : decode cX3_worth 34 = .ok (.invokevirtual 186, 3) := by decide +kernel
theorem dX3_worth_37 : decode cX3_worth 37 = .ok (.isub, 1) := by decide +kernel
theorem dX3_worth_38 : decode cX3_worth 38 = .ok (.ireturn, 1) := by decide +kernel
set_option maxRecDepth 20000 in
theorem ggX3_plain_X3_exposureAt : GoodIn wsX3_plain wsX3_exposureAt := goodIn_r _ [7, 8, 22, 23, 24, 25, 26, 27, 28, 29, 30] (by decide +kernel) (by decide +kernel)
set_option maxRecDepth 20000 in
theorem gX3_plain_X3_exposureAt : GoodIn wsX3_plain (wsV RX3 105 RX3 yX3_exposureAt wsX3_exposureAt) := goodIn_app (goodIn_of _ (by decide +kernel)) ggX3_plain_X3_exposureAt
set_option maxRecDepth 20000 in
theorem ggX3_plain_X0_amountNow : GoodIn wsX3_plain wsX0_amountNow := goodIn_r _ [12, 13, 14, 15, 6, 16, 17, 31, 32, 33, 34, 35, 36, 37, 38] (by decide +kernel) (by decide +kernel)
set_option maxRecDepth 20000 in
theorem gX3_plain_X0_amountNow_n132 : GoodIn wsX3_plain (wsX0_amountNow) := ggX3_plain_X0_amountNow
set_option maxRecDepth 20000 in
theorem ggX3_plain_X3_at : GoodIn wsX3_plain wsX3_at := goodIn_r _ [20] (by decide +kernel) (by decide +kernel)
set_option maxRecDepth 20000 in
theorem gX3_plain_X3_at : GoodIn wsX3_plain (va_wsS RX3 68 yX3_at wsX3_at) := goodIn_app (goodIn_of _ (by decide +kernel)) ggX3_plain_X3_at
set_option maxRecDepth 20000 in
theorem ggX3_plain_X3_percentOf : GoodIn wsX3_plain wsX3_percentOf := goodIn_r _ [16, 17] (by decide +kernel) (by decide +kernel)
set_option maxRecDepth 20000 in
theorem gX3_plain_X3_percentOf : GoodIn wsX3_plain (va_wsS RX3 198 yX3_percentOf wsX3_percentOf) := goodIn_app (goodIn_of _ (by decide +kernel)) ggX3_plain_X3_percentOf
theorem dX3_plain_0 : decode cX3_plain 0 = .ok (.iconst 0, 1) := by decide +kernel
theorem dX3_plain_1 : decode cX3_plain 1 = .ok (.istore_n 1, 1) := by decide +kernel
theorem dX3_plain_2 : decode cX3_plain 2 = .ok (.iconst 0, 1) := by decide +kernel
theorem dX3_plain_3 : decode cX3_plain 3 = .ok (.istore_n 2, 1) := by decide +kernel
theorem dX3_plain_4 : decode cX3_plain 4 = .ok (.iload_n 2, 1) := by decide +kernel
theorem dX3_plain_5 : decode cX3_plain 5 = .ok (.aload_n 0, 1) := by decide +kernel
theorem dX3_plain_6 : decode cX3_plain 6 = .ok (.getfield 35, 3) := by decide +kernel
theorem dX3_plain_9 : decode cX3_plain 9 = .ok (.if_icmp .ge 40, 3) := by decide +kernel
theorem dX3_plain_12 : decode cX3_plain 12 = .ok (.aload_n 0, 1) := by decide +kernel
theorem dX3_plain_13 : decode cX3_plain 13 = .ok (.iload_n 2, 1) := by decide +kernel
theorem dX3_plain_14 : decode cX3_plain 14 = .ok (.invokevirtual 105, 3) := by decide +kernel
theorem dX3_plain_17 : decode cX3_plain 17 = .ok (.astore_n 3, 1) := by decide +kernel
theorem dX3_plain_18 : decode cX3_plain 18 = .ok (.aload_n 3, 1) := by decide +kernel
theorem dX3_plain_19 : decode cX3_plain 19 = .ok (.ifnull 24, 3) := by decide +kernel
theorem dX3_plain_22 : decode cX3_plain 22 = .ok (.iload_n 1, 1) := by decide +kernel
theorem dX3_plain_23 : decode cX3_plain 23 = .ok (.aload_n 3, 1) := by decide +kernel
theorem dX3_plain_24 : decode cX3_plain 24 = .ok (.invokevirtual 132, 3) := by decide +kernel
theorem dX3_plain_27 : decode cX3_plain 27 = .ok (.aload_n 0, 1) := by decide +kernel
theorem dX3_plain_28 : decode cX3_plain 28 = .ok (.getfield 13, 3) := by decide +kernel
theorem dX3_plain_31 : decode cX3_plain 31 = .ok (.aload_n 3, 1) := by decide +kernel
theorem dX3_plain_32 : decode cX3_plain 32 = .ok (.getfield 123, 3) := by decide +kernel
theorem dX3_plain_35 : decode cX3_plain 35 = .ok (.invokestatic 68, 3) := by decide +kernel
theorem dX3_plain_38 : decode cX3_plain 38 = .ok (.invokestatic 198, 3) := by decide +kernel
theorem dX3_plain_41 : decode cX3_plain 41 = .ok (.iadd, 1) := by decide +kernel
theorem dX3_plain_42 : decode cX3_plain 42 = .ok (.istore_n 1, 1) := by decide +kernel
theorem dX3_plain_43 : decode cX3_plain 43 = .ok (.iinc 2 1, 3) := by decide +kernel
theorem dX3_plain_46 : decode cX3_plain 46 = .ok (.goto (-42), 3) := by decide +kernel
theorem dX3_plain_49 : decode cX3_plain 49 = .ok (.iload_n 1, 1) := by decide +kernel
theorem dX3_plain_50 : decode cX3_plain 50 = .ok (.ireturn, 1) := by decide +kernel
set_option maxRecDepth 20000 in
theorem ggX3_required_X3_whole : GoodIn wsX3_required wsX3_whole := goodIn_r _ [10, 11, 12, 13, 14, 9, 15, 16, 17, 18, 19, 20, 21, 22, 23, 24, 25, 26, 27, 4, 28, 29, 30, 31, 32, 33, 34, 35, 36, 37, 38, 39, 40, 41, 42, 43, 44, 45, 46, 47, 48, 49, 50, 51, 52, 53, 54, 55, 56, 57, 2, 3, 5, 58, 59, 60, 61, 62, 63, 64, 65, 66, 67, 68, 69, 70, 71, 72, 73, 74, 75, 76, 77, 78, 79, 80, 81, 82, 83, 84, 85, 86, 87, 88, 89, 90, 91, 92, 93, 94, 95, 96, 97, 98, 99, 100, 101, 102, 103, 104, 105, 106, 107, 108, 109, 110, 111, 112, 113, 114, 115, 116, 117, 118, 119, 120, 121, 122, 123, 124, 125, 126, 127, 128, 129, 130, 131, 132, 133, 139, 140, 141, 142, 143, 144, 145, 146, 147, 148, 149, 150, 151, 152, 153, 154, 155, 156, 157, 158, 159, 160, 161, 162, 163, 164, 165, 166, 167] (by decide +kernel) (by decide +kernel)
set_option maxRecDepth 20000 in
theorem gX3_required_X3_whole : GoodIn wsX3_required (wsV RX3 202 RX3 yX3_whole wsX3_whole) := goodIn_app (goodIn_of _ (by decide +kernel)) ggX3_required_X3_whole
set_option maxRecDepth 20000 in
theorem ggX3_required_X3_plain : GoodIn wsX3_required wsX3_plain := goodIn_r _ [137, 20, 138, 31, 32, 33, 9, 34, 35, 58, 59, 60, 61, 62, 63, 64, 65, 66, 81, 82, 83, 84, 139, 140, 141, 142, 143, 144, 145, 146, 147, 160, 161, 162, 163, 164, 165, 166, 167] (by decide +kernel) (by decide +kernel)
set_option maxRecDepth 20000 in
theorem gX3_required_X3_plain : GoodIn wsX3_required (wsV RX3 205 RX3 yX3_plain wsX3_plain) := goodIn_app (goodIn_of _ (by decide +kernel)) ggX3_required_X3_plain
set_option maxRecDepth 20000 in
theorem ggX3_required_X3_percentOf : GoodIn wsX3_required wsX3_percentOf := goodIn_r _ [65, 66] (by decide +kernel) (by decide +kernel)
set_option maxRecDepth 20000 in
theorem gX3_required_X3_percentOf : GoodIn wsX3_required (va_wsS RX3 198 yX3_percentOf wsX3_percentOf) := goodIn_app (goodIn_of _ (by decide +kernel)) ggX3_required_X3_percentOf
theorem dX3_required_0 : decode cX3_required 0 = .ok (.aload_n 0, 1) := by decide +kernel
theorem dX3_required_1 : decode cX3_required 1 = .ok (.invokevirtual 202, 3) := by decide +kernel
theorem dX3_required_4 : decode cX3_required 4 = .ok (.aload_n 0, 1) := by decide +kernel
theorem dX3_required_5 : decode cX3_required 5 = .ok (.invokevirtual 205, 3) := by decide +kernel
theorem dX3_required_8 : decode cX3_required 8 = .ok (.aload_n 0, 1) := by decide +kernel
theorem dX3_required_9 : decode cX3_required 9 = .ok (.getfield 42, 3) := by decide +kernel
theorem dX3_required_12 : decode cX3_required 12 = .ok (.invokestatic 198, 3) := by decide +kernel
theorem dX3_required_15 : decode cX3_required 15 = .ok (.invokestatic 208, 3) := by decide +kernel
theorem dX3_required_18 : decode cX3_required 18 = .ok (.ireturn, 1) := by decide +kernel
set_option maxRecDepth 20000 in
theorem ggX3_partyBare_X3_isParty : GoodIn wsX3_partyBare wsX3_isParty := goodIn_r _ [6, 7, 8, 5, 9] (by decide +kernel) (by decide +kernel)
set_option maxRecDepth 20000 in
theorem gX3_partyBare_X3_isParty : GoodIn wsX3_partyBare (va_wsS RX3 81 yX3_isParty wsX3_isParty) := goodIn_app (goodIn_of _ (by decide +kernel)) ggX3_partyBare_X3_isParty
set_option maxRecDepth 20000 in
theorem ggX3_partyBare_X3_findBest : GoodIn wsX3_partyBare wsX3_findBest := goodIn_r _ [13, 14, 15, 16, 17, 5, 18, 19, 20, 21, 22, 23, 24, 25, 26, 27, 28, 29, 30, 31, 32, 33, 34, 35, 36, 37, 38, 39, 40, 41, 42, 43, 44, 45, 46, 47, 48, 49, 50, 51, 52, 53, 54, 55, 56, 57, 58, 59, 60, 61, 62, 63, 64, 65, 66, 67, 68, 69, 70, 71, 72, 73, 74, 75, 76, 77, 78, 79, 80, 81, 82, 83, 84, 85, 86, 87, 88, 89, 90, 91, 92, 93, 94, 95, 96, 97, 98, 99, 100, 101, 102, 103, 104, 105, 106, 107, 108, 109, 110, 111, 112, 113, 114, 115, 116, 117, 118, 119, 120, 121, 122, 123, 124, 125, 145, 146, 147, 148, 149, 150, 151, 152, 153, 154, 155, 156, 157, 158, 159, 160, 161, 162, 163, 164, 165, 166, 167, 168, 169, 170, 171, 172, 173] (by decide +kernel) (by decide +kernel)
set_option maxRecDepth 20000 in
theorem gX3_partyBare_X3_findBest : GoodIn wsX3_partyBare (wsV RX3 169 RX3 yX3_findBest wsX3_findBest) := goodIn_app (goodIn_of _ (by decide +kernel)) ggX3_partyBare_X3_findBest
set_option maxRecDepth 20000 in
theorem ggX3_partyBare_X3_bareOfParty : GoodIn wsX3_partyBare wsX3_bareOfParty := goodIn_r _ [129, 19, 14, 31, 32, 33, 5, 34, 35, 130, 22, 131, 132, 30, 133, 134, 135, 136, 137, 138, 139, 140, 141, 142, 143, 144, 122, 123, 124, 125, 95, 99, 100, 101, 54, 55, 56, 57, 20, 58, 59, 27, 60, 61, 62, 63, 64, 65, 66, 67, 68, 69, 40, 41, 42, 43, 44, 45, 46, 47, 70, 71, 72, 73, 74, 75, 76, 77, 145, 146, 147, 148, 149, 150, 151, 152, 153, 166, 167, 168, 169, 170, 171, 172, 173, 154, 155, 156, 157, 158, 159, 160, 161, 162, 163, 164, 165] (by decide +kernel) (by decide +kernel)
set_option maxRecDepth 20000 in
theorem gX3_partyBare_X3_bareOfParty : GoodIn wsX3_partyBare (wsV RX3 215 RX3 yX3_bareOfParty wsX3_bareOfParty) := goodIn_app (goodIn_of _ (by decide +kernel)) ggX3_partyBare_X3_bareOfParty
theorem dX3_partyBare_0 : decode cX3_partyBare 0 = .ok (.iload_n 1, 1) := by decide +kernel
theorem dX3_partyBare_1 : decode cX3_partyBare 1 = .ok (.invokestatic 81, 3) := by decide +kernel
theorem dX3_partyBare_4 : decode cX3_partyBare 4 = .ok (.ifCond .ne 13, 3) := by decide +kernel
theorem dX3_partyBare_7 : decode cX3_partyBare 7 = .ok (.new 52, 3) := by decide +kernel
theorem dX3_partyBare_10 : decode cX3_partyBare 10 = .ok (.dup, 1) := by decide +kernel
theorem dX3_partyBare_11 : decode cX3_partyBare 11 = .ok (.ldc 213, 2) := by decide +kernel
theorem dX3_partyBare_13 : decode cX3_partyBare 13 = .ok (.invokespecial 56, 3) := by decide +kernel
theorem dX3_partyBare_16 : decode cX3_partyBare 16 = .ok (.athrow, 1) := by decide +kernel
theorem dX3_partyBare_17 : decode cX3_partyBare 17 = .ok (.aload_n 0, 1) := by decide +kernel
theorem dX3_partyBare_18 : decode cX3_partyBare 18 = .ok (.invokevirtual 169, 3) := by decide +kernel
theorem dX3_partyBare_21 : decode cX3_partyBare 21 = .ok (.aload_n 0, 1) := by decide +kernel
theorem dX3_partyBare_22 : decode cX3_partyBare 22 = .ok (.iload_n 1, 1) := by decide +kernel
theorem dX3_partyBare_23 : decode cX3_partyBare 23 = .ok (.invokevirtual 215, 3) := by decide +kernel
theorem dX3_partyBare_26 : decode cX3_partyBare 26 = .ok (.ireturn, 1) := by decide +kernel
set_option maxRecDepth 20000 in
theorem ggX3_tooLarge_X3_findBest : GoodIn wsX3_tooLarge wsX3_findBest := goodIn_r _ [6, 7, 8, 9, 10, 5, 11, 12, 13, 14, 15, 16, 17, 18, 19, 20, 21, 22, 23, 24, 25, 26, 27, 28, 29, 30, 31, 32, 33, 34, 35, 36, 37, 38, 39, 40, 41, 42, 43, 44, 45, 46, 47, 48, 49, 50, 51, 52, 53, 54, 55, 56, 57, 58, 59, 60, 61, 62, 63, 64, 65, 66, 67, 68, 69, 70, 71, 72, 73, 74, 75, 76, 77, 78, 79, 80, 81, 82, 83, 84, 85, 86, 87, 88, 89, 90, 91, 92, 93, 94, 95, 96, 97, 98, 99, 100, 101, 102, 103, 104, 105, 106, 107, 108, 109, 110, 111, 112, 113, 114, 115, 116, 117, 118, 138, 139, 140, 141, 142, 143, 144, 145, 146, 147, 148, 149, 150, 151, 152, 153, 154, 155, 156, 157, 158, 159, 160, 161, 162, 163, 164, 165, 166] (by decide +kernel) (by decide +kernel)
set_option maxRecDepth 20000 in
theorem gX3_tooLarge_X3_findBest : GoodIn wsX3_tooLarge (wsV RX3 169 RX3 yX3_findBest wsX3_findBest) := goodIn_app (goodIn_of _ (by decide +kernel)) ggX3_tooLarge_X3_findBest
set_option maxRecDepth 20000 in
theorem ggX3_tooLarge_X3_bareOfParty : GoodIn wsX3_tooLarge wsX3_bareOfParty := goodIn_r _ [122, 12, 7, 24, 25, 26, 5, 27, 28, 123, 15, 124, 125, 23, 126, 127, 128, 129, 130, 131, 132, 133, 134, 135, 136, 137, 115, 116, 117, 118, 88, 92, 93, 94, 47, 48, 49, 50, 13, 51, 52, 20, 53, 54, 55, 56, 57, 58, 59, 60, 61, 62, 33, 34, 35, 36, 37, 38, 39, 40, 63, 64, 65, 66, 67, 68, 69, 70, 138, 139, 140, 141, 142, 143, 144, 145, 146, 159, 160, 161, 162, 163, 164, 165, 166, 147, 148, 149, 150, 151, 152, 153, 154, 155, 156, 157, 158] (by decide +kernel) (by decide +kernel)
set_option maxRecDepth 20000 in
theorem gX3_tooLarge_X3_bareOfParty : GoodIn wsX3_tooLarge (wsV RX3 215 RX3 yX3_bareOfParty wsX3_bareOfParty) := goodIn_app (goodIn_of _ (by decide +kernel)) ggX3_tooLarge_X3_bareOfParty
theorem dX3_tooLarge_0 : decode cX3_tooLarge 0 = .ok (.aload_n 0, 1) := by decide +kernel
theorem dX3_tooLarge_1 : decode cX3_tooLarge 1 = .ok (.invokevirtual 169, 3) := by decide +kernel
theorem dX3_tooLarge_4 : decode cX3_tooLarge 4 = .ok (.iconst 0, 1) := by decide +kernel
theorem dX3_tooLarge_5 : decode cX3_tooLarge 5 = .ok (.istore_n 1, 1) := by decide +kernel
theorem dX3_tooLarge_6 : decode cX3_tooLarge 6 = .ok (.iconst 0, 1) := by decide +kernel
theorem dX3_tooLarge_7 : decode cX3_tooLarge 7 = .ok (.istore_n 2, 1) := by decide +kernel
theorem dX3_tooLarge_8 : decode cX3_tooLarge 8 = .ok (.iload_n 2, 1) := by decide +kernel
theorem dX3_tooLarge_9 : decode cX3_tooLarge 9 = .ok (.iconst 4, 1) := by decide +kernel
theorem dX3_tooLarge_10 : decode cX3_tooLarge 10 = .ok (.if_icmp .ge 29, 3) := by decide +kernel
theorem dX3_tooLarge_13 : decode cX3_tooLarge 13 = .ok (.aload_n 0, 1) := by decide +kernel
theorem dX3_tooLarge_14 : decode cX3_tooLarge 14 = .ok (.iload_n 2, 1) := by decide +kernel
theorem dX3_tooLarge_15 : decode cX3_tooLarge 15 = .ok (.invokevirtual 215, 3) := by decide +kernel
theorem dX3_tooLarge_18 : decode cX3_tooLarge 18 = .ok (.aload_n 0, 1) := by decide +kernel
theorem dX3_tooLarge_19 : decode cX3_tooLarge 19 = .ok (.getfield 45, 3) := by decide +kernel
theorem dX3_tooLarge_22 : decode cX3_tooLarge 22 = .ok (.iconst 4, 1) := by decide +kernel
theorem dX3_tooLarge_23 : decode cX3_tooLarge 23 = .ok (.idiv, 1) := by decide +kernel
theorem dX3_tooLarge_24 : decode cX3_tooLarge 24 = .ok (.if_icmp .le 9, 3) := by decide +kernel
theorem dX3_tooLarge_27 : decode cX3_tooLarge 27 = .ok (.iload_n 1, 1) := by decide +kernel
theorem dX3_tooLarge_28 : decode cX3_tooLarge 28 = .ok (.iconst 1, 1) := by decide +kernel
theorem dX3_tooLarge_29 : decode cX3_tooLarge 29 = .ok (.iload_n 2, 1) := by decide +kernel
theorem dX3_tooLarge_30 : decode cX3_tooLarge 30 = .ok (.ishl, 1) := by decide +kernel
theorem dX3_tooLarge_31 : decode cX3_tooLarge 31 = .ok (.ior, 1) := by decide +kernel
theorem dX3_tooLarge_32 : decode cX3_tooLarge 32 = .ok (.istore_n 1, 1) := by decide +kernel
theorem dX3_tooLarge_33 : decode cX3_tooLarge 33 = .ok (.iinc 2 1, 3) := by decide +kernel
theorem dX3_tooLarge_36 : decode cX3_tooLarge 36 = .ok (.goto (-28), 3) := by decide +kernel
theorem dX3_tooLarge_39 : decode cX3_tooLarge 39 = .ok (.iload_n 1, 1) := by decide +kernel
theorem dX3_tooLarge_40 : decode cX3_tooLarge 40 = .ok (.ireturn, 1) := by decide +kernel
theorem dX3_isWithin_0 : decode cX3_isWithin 0 = .ok (.iload_n 1, 1) := by decide +kernel
theorem dX3_isWithin_1 : decode cX3_isWithin 1 = .ok (.iload_n 0, 1) := by decide +kernel
theorem dX3_isWithin_2 : decode cX3_isWithin 2 = .ok (.if_icmp .gt 12, 3) := by decide +kernel
theorem dX3_isWithin_5 : decode cX3_isWithin 5 = .ok (.iload_n 0, 1) := by decide +kernel
theorem dX3_isWithin_6 : decode cX3_isWithin 6 = .ok (.iload_n 2, 1) := by decide +kernel
theorem dX3_isWithin_7 : decode cX3_isWithin 7 = .ok (.if_icmp .gt 7, 3) := by decide +kernel
theorem dX3_isWithin_10 : decode cX3_isWithin 10 = .ok (.iconst 1, 1) := by decide +kernel
theorem dX3_isWithin_11 : decode cX3_isWithin 11 = .ok (.goto 4, 3) := by decide +kernel
theorem dX3_isWithin_14 : decode cX3_isWithin 14 = .ok (.iconst 0, 1) := by decide +kernel
theorem dX3_isWithin_15 : decode cX3_isWithin 15 = .ok (.ireturn, 1) := by decide +kernel
set_option maxRecDepth 20000 in
theorem ggX3_isClass_X3_isWithin : GoodIn wsX3_isClass wsX3_isWithin := goodIn_r _ [4] (by decide +kernel) (by decide +kernel)
set_option maxRecDepth 20000 in
theorem gX3_isClass_X3_isWithin : GoodIn wsX3_isClass (va_wsS RX3 59 yX3_isWithin wsX3_isWithin) := goodIn_app (goodIn_of _ (by decide +kernel)) ggX3_isClass_X3_isWithin
theorem dX3_isClass_0 : decode cX3_isClass 0 = .ok (.iload_n 0, 1) := by decide +kernel
theorem dX3_isClass_1 : decode cX3_isClass 1 = .ok (.iconst 0, 1) := by decide +kernel
theorem dX3_isClass_2 : decode cX3_isClass 2 = .ok (.iconst 3, 1) := by decide +kernel
theorem dX3_isClass_3 : decode cX3_isClass 3 = .ok (.invokestatic 59, 3) := by decide +kernel
theorem dX3_isClass_6 : decode cX3_isClass 6 = .ok (.ireturn, 1) := by decide +kernel
set_option maxRecDepth 20000 in
theorem ggX3_isParty_X3_isWithin : GoodIn wsX3_isParty wsX3_isWithin := goodIn_r _ [4] (by decide +kernel) (by decide +kernel)
set_option maxRecDepth 20000 in
theorem gX3_isParty_X3_isWithin : GoodIn wsX3_isParty (va_wsS RX3 59 yX3_isWithin wsX3_isWithin) := goodIn_app (goodIn_of _ (by decide +kernel)) ggX3_isParty_X3_isWithin
theorem dX3_isParty_0 : decode cX3_isParty 0 = .ok (.iload_n 0, 1) := by decide +kernel
theorem dX3_isParty_1 : decode cX3_isParty 1 = .ok (.iconst 0, 1) := by decide +kernel
theorem dX3_isParty_2 : decode cX3_isParty 2 = .ok (.iconst 3, 1) := by decide +kernel
theorem dX3_isParty_3 : decode cX3_isParty 3 = .ok (.invokestatic 59, 3) := by decide +kernel
theorem dX3_isParty_6 : decode cX3_isParty 6 = .ok (.ireturn, 1) := by decide +kernel
set_option maxRecDepth 20000 in
theorem ggX3_isCurrency_X3_isWithin : GoodIn wsX3_isCurrency wsX3_isWithin := goodIn_r _ [4] (by decide +kernel) (by decide +kernel)
set_option maxRecDepth 20000 in
theorem gX3_isCurrency_X3_isWithin : GoodIn wsX3_isCurrency (va_wsS RX3 59 yX3_isWithin wsX3_isWithin) := goodIn_app (goodIn_of _ (by decide +kernel)) ggX3_isCurrency_X3_isWithin
theorem dX3_isCurrency_0 : decode cX3_isCurrency 0 = .ok (.iload_n 0, 1) := by decide +kernel
theorem dX3_isCurrency_1 : decode cX3_isCurrency 1 = .ok (.iconst 0, 1) := by decide +kernel
theorem dX3_isCurrency_2 : decode cX3_isCurrency 2 = .ok (.iconst 2, 1) := by decide +kernel
theorem dX3_isCurrency_3 : decode cX3_isCurrency 3 = .ok (.invokestatic 59, 3) := by decide +kernel
theorem dX3_isCurrency_6 : decode cX3_isCurrency 6 = .ok (.ireturn, 1) := by decide +kernel
set_option maxRecDepth 20000 in
theorem ggX3_isDays_X3_isWithin : GoodIn wsX3_isDays wsX3_isWithin := goodIn_r _ [4] (by decide +kernel) (by decide +kernel)
set_option maxRecDepth 20000 in
theorem gX3_isDays_X3_isWithin : GoodIn wsX3_isDays (va_wsS RX3 59 yX3_isWithin wsX3_isWithin) := goodIn_app (goodIn_of _ (by decide +kernel)) ggX3_isDays_X3_isWithin
theorem dX3_isDays_0 : decode cX3_isDays 0 = .ok (.iload_n 0, 1) := by decide +kernel
theorem dX3_isDays_1 : decode cX3_isDays 1 = .ok (.iconst 1, 1) := by decide +kernel
theorem dX3_isDays_2 : decode cX3_isDays 2 = .ok (.sipush 3650, 3) := by decide +kernel
theorem dX3_isDays_5 : decode cX3_isDays 5 = .ok (.invokestatic 59, 3) := by decide +kernel
theorem dX3_isDays_8 : decode cX3_isDays 8 = .ok (.ireturn, 1) := by decide +kernel
set_option maxRecDepth 20000 in
theorem ggX3_isPart_X3_isWithin : GoodIn wsX3_isPart wsX3_isWithin := goodIn_r _ [5] (by decide +kernel) (by decide +kernel)
set_option maxRecDepth 20000 in
theorem gX3_isPart_X3_isWithin : GoodIn wsX3_isPart (va_wsS RX3 59 yX3_isWithin wsX3_isWithin) := goodIn_app (goodIn_of _ (by decide +kernel)) ggX3_isPart_X3_isWithin
theorem dX3_isPart_0 : decode cX3_isPart 0 = .ok (.iload_n 0, 1) := by decide +kernel
theorem dX3_isPart_1 : decode cX3_isPart 1 = .ok (.iconst 0, 1) := by decide +kernel
theorem dX3_isPart_2 : decode cX3_isPart 2 = .ok (.ldc 112, 2) := by decide +kernel
theorem dX3_isPart_4 : decode cX3_isPart 4 = .ok (.invokestatic 59, 3) := by decide +kernel
theorem dX3_isPart_7 : decode cX3_isPart 7 = .ok (.ireturn, 1) := by decide +kernel
set_option maxRecDepth 20000 in
theorem ggX3_isPieceSum_X3_isWithin : GoodIn wsX3_isPieceSum wsX3_isWithin := goodIn_r _ [5] (by decide +kernel) (by decide +kernel)
set_option maxRecDepth 20000 in
theorem gX3_isPieceSum_X3_isWithin : GoodIn wsX3_isPieceSum (va_wsS RX3 59 yX3_isWithin wsX3_isWithin) := goodIn_app (goodIn_of _ (by decide +kernel)) ggX3_isPieceSum_X3_isWithin
theorem dX3_isPieceSum_0 : decode cX3_isPieceSum 0 = .ok (.iload_n 0, 1) := by decide +kernel
theorem dX3_isPieceSum_1 : decode cX3_isPieceSum 1 = .ok (.iconst 1, 1) := by decide +kernel
theorem dX3_isPieceSum_2 : decode cX3_isPieceSum 2 = .ok (.ldc 112, 2) := by decide +kernel
theorem dX3_isPieceSum_4 : decode cX3_isPieceSum 4 = .ok (.invokestatic 59, 3) := by decide +kernel
theorem dX3_isPieceSum_7 : decode cX3_isPieceSum 7 = .ok (.ireturn, 1) := by decide +kernel
set_option maxRecDepth 20000 in
theorem ggX3_isUses_X3_isWithin : GoodIn wsX3_isUses wsX3_isWithin := goodIn_r _ [4] (by decide +kernel) (by decide +kernel)
set_option maxRecDepth 20000 in
theorem gX3_isUses_X3_isWithin : GoodIn wsX3_isUses (va_wsS RX3 59 yX3_isWithin wsX3_isWithin) := goodIn_app (goodIn_of _ (by decide +kernel)) ggX3_isUses_X3_isWithin
theorem dX3_isUses_0 : decode cX3_isUses 0 = .ok (.iload_n 0, 1) := by decide +kernel
theorem dX3_isUses_1 : decode cX3_isUses 1 = .ok (.iconst 0, 1) := by decide +kernel
theorem dX3_isUses_2 : decode cX3_isUses 2 = .ok (.sipush 255, 3) := by decide +kernel
theorem dX3_isUses_5 : decode cX3_isUses 5 = .ok (.invokestatic 59, 3) := by decide +kernel
theorem dX3_isUses_8 : decode cX3_isUses 8 = .ok (.ireturn, 1) := by decide +kernel
theorem dX3_has_0 : decode cX3_has 0 = .ok (.iload_n 0, 1) := by decide +kernel
theorem dX3_has_1 : decode cX3_has 1 = .ok (.iload_n 1, 1) := by decide +kernel
theorem dX3_has_2 : decode cX3_has 2 = .ok (.ishr, 1) := by decide +kernel
theorem dX3_has_3 : decode cX3_has 3 = .ok (.iconst 1, 1) := by decide +kernel
theorem dX3_has_4 : decode cX3_has 4 = .ok (.iand, 1) := by decide +kernel
theorem dX3_has_5 : decode cX3_has 5 = .ok (.ifCond .eq 7, 3) := by decide +kernel
theorem dX3_has_8 : decode cX3_has 8 = .ok (.iconst 1, 1) := by decide +kernel
theorem dX3_has_9 : decode cX3_has 9 = .ok (.goto 4, 3) := by decide +kernel
theorem dX3_has_12 : decode cX3_has 12 = .ok (.iconst 0, 1) := by decide +kernel
theorem dX3_has_13 : decode cX3_has 13 = .ok (.ireturn, 1) := by decide +kernel
theorem dX3_at_0 : decode cX3_at 0 = .ok (.iconst 0, 1) := by decide +kernel
theorem dX3_at_1 : decode cX3_at 1 = .ok (.iload_n 1, 1) := by decide +kernel
theorem dX3_at_2 : decode cX3_at 2 = .ok (.if_icmp .gt 15, 3) := by decide +kernel
theorem dX3_at_5 : decode cX3_at 5 = .ok (.iload_n 1, 1) := by decide +kernel
theorem dX3_at_6 : decode cX3_at 6 = .ok (.aload_n 0, 1) := by decide +kernel
theorem dX3_at_7 : decode cX3_at 7 = .ok (.arraylength, 1) := by decide +kernel
theorem dX3_at_8 : decode cX3_at 8 = .ok (.if_icmp .ge 9, 3) := by decide +kernel
theorem dX3_at_11 : decode cX3_at 11 = .ok (.aload_n 0, 1) := by decide +kernel
theorem dX3_at_12 : decode cX3_at 12 = .ok (.iload_n 1, 1) := by decide +kernel
theorem dX3_at_13 : decode cX3_at 13 = .ok (.iaload, 1) := by decide +kernel
theorem dX3_at_14 : decode cX3_at 14 = .ok (.goto 4, 3) := by decide +kernel
theorem dX3_at_17 : decode cX3_at 17 = .ok (.iconst 0, 1) := by decide +kernel
theorem dX3_at_18 : decode cX3_at 18 = .ok (.ireturn, 1) := by decide +kernel
theorem dX3_put_0 : decode cX3_put 0 = .ok (.iconst 0, 1) := by decide +kernel
theorem dX3_put_1 : decode cX3_put 1 = .ok (.iload_n 1, 1) := by decide +kernel
theorem dX3_put_2 : decode cX3_put 2 = .ok (.if_icmp .gt 13, 3) := by decide +kernel
theorem dX3_put_5 : decode cX3_put 5 = .ok (.iload_n 1, 1) := by decide +kernel
theorem dX3_put_6 : decode cX3_put 6 = .ok (.aload_n 0, 1) := by decide +kernel
theorem dX3_put_7 : decode cX3_put 7 = .ok (.arraylength, 1) := by decide +kernel
theorem dX3_put_8 : decode cX3_put 8 = .ok (.if_icmp .ge 7, 3) := by decide +kernel
theorem dX3_put_11 : decode cX3_put 11 = .ok (.aload_n 0, 1) := by decide +kernel
theorem dX3_put_12 : decode cX3_put 12 = .ok (.iload_n 1, 1) := by decide +kernel
theorem dX3_put_13 : decode cX3_put 13 = .ok (.iload_n 2, 1) := by decide +kernel
theorem dX3_put_14 : decode cX3_put 14 = .ok (.iastore, 1) := by decide +kernel
theorem dX3_put_15 : decode cX3_put 15 = .ok (.return_, 1) := by decide +kernel
theorem dX3_percentOf_0 : decode cX3_percentOf 0 = .ok (.iload_n 0, 1) := by decide +kernel
theorem dX3_percentOf_1 : decode cX3_percentOf 1 = .ok (.i2l, 1) := by decide +kernel
theorem dX3_percentOf_2 : decode cX3_percentOf 2 = .ok (.iload_n 1, 1) := by decide +kernel
theorem dX3_percentOf_3 : decode cX3_percentOf 3 = .ok (.i2l, 1) := by decide +kernel
theorem dX3_percentOf_4 : decode cX3_percentOf 4 = .ok (.lmul, 1) := by decide +kernel
theorem dX3_percentOf_5 : decode cX3_percentOf 5 = .ok (.ldc2_w 218, 3) := by decide +kernel
theorem dX3_percentOf_8 : decode cX3_percentOf 8 = .ok (.ldiv, 1) := by decide +kernel
theorem dX3_percentOf_9 : decode cX3_percentOf 9 = .ok (.l2i, 1) := by decide +kernel
theorem dX3_percentOf_10 : decode cX3_percentOf 10 = .ok (.ireturn, 1) := by decide +kernel
theorem dX3_exposureAt_0 : decode cX3_exposureAt 0 = .ok (.iconst 0, 1) := by decide +kernel
theorem dX3_exposureAt_1 : decode cX3_exposureAt 1 = .ok (.iload_n 1, 1) := by decide +kernel
theorem dX3_exposureAt_2 : decode cX3_exposureAt 2 = .ok (.if_icmp .gt 21, 3) := by decide +kernel
theorem dX3_exposureAt_5 : decode cX3_exposureAt 5 = .ok (.iload_n 1, 1) := by decide +kernel
theorem dX3_exposureAt_6 : decode cX3_exposureAt 6 = .ok (.aload_n 0, 1) := by decide +kernel
theorem dX3_exposureAt_7 : decode cX3_exposureAt 7 = .ok (.getfield 18, 3) := by decide +kernel
theorem dX3_exposureAt_10 : decode cX3_exposureAt 10 = .ok (.arraylength, 1) := by decide +kernel
theorem dX3_exposureAt_11 : decode cX3_exposureAt 11 = .ok (.if_icmp .ge 12, 3) := by decide +kernel
theorem dX3_exposureAt_14 : decode cX3_exposureAt 14 = .ok (.aload_n 0, 1) := by decide +kernel
theorem dX3_exposureAt_15 : decode cX3_exposureAt 15 = .ok (.getfield 18, 3) := by decide +kernel
theorem dX3_exposureAt_18 : decode cX3_exposureAt 18 = .ok (.iload_n 1, 1) := by decide +kernel
theorem dX3_exposureAt_19 : decode cX3_exposureAt 19 = .ok (.aaload, 1) := by decide +kernel
theorem dX3_exposureAt_20 : decode cX3_exposureAt 20 = .ok (.goto 4, 3) := by decide +kernel
theorem dX3_exposureAt_23 : decode cX3_exposureAt 23 = .ok (.aconst_null, 1) := by decide +kernel
theorem dX3_exposureAt_24 : decode cX3_exposureAt 24 = .ok (.areturn, 1) := by decide +kernel
theorem dX3_pieceAt_0 : decode cX3_pieceAt 0 = .ok (.iconst 0, 1) := by decide +kernel
theorem dX3_pieceAt_1 : decode cX3_pieceAt 1 = .ok (.iload_n 1, 1) := by decide +kernel
theorem dX3_pieceAt_2 : decode cX3_pieceAt 2 = .ok (.if_icmp .gt 21, 3) := by decide +kernel
theorem dX3_pieceAt_5 : decode cX3_pieceAt 5 = .ok (.iload_n 1, 1) := by decide +kernel
theorem dX3_pieceAt_6 : decode cX3_pieceAt 6 = .ok (.aload_n 0, 1) := by decide +kernel
theorem dX3_pieceAt_7 : decode cX3_pieceAt 7 = .ok (.getfield 24, 3) := by decide +kernel
theorem dX3_pieceAt_10 : decode cX3_pieceAt 10 = .ok (.arraylength, 1) := by decide +kernel
theorem dX3_pieceAt_11 : decode cX3_pieceAt 11 = .ok (.if_icmp .ge 12, 3) := by decide +kernel
theorem dX3_pieceAt_14 : decode cX3_pieceAt 14 = .ok (.aload_n 0, 1) := by decide +kernel
theorem dX3_pieceAt_15 : decode cX3_pieceAt 15 = .ok (.getfield 24, 3) := by decide +kernel
theorem dX3_pieceAt_18 : decode cX3_pieceAt 18 = .ok (.iload_n 1, 1) := by decide +kernel
theorem dX3_pieceAt_19 : decode cX3_pieceAt 19 = .ok (.aaload, 1) := by decide +kernel
theorem dX3_pieceAt_20 : decode cX3_pieceAt 20 = .ok (.goto 4, 3) := by decide +kernel
theorem dX3_pieceAt_23 : decode cX3_pieceAt 23 = .ok (.aconst_null, 1) := by decide +kernel
theorem dX3_pieceAt_24 : decode cX3_pieceAt 24 = .ok (.areturn, 1) := by decide +kernel
set_option maxRecDepth 20000 in
theorem ggX3_bareWith_X0_amountNow : GoodIn wsX3_bareWith wsX0_amountNow := goodIn_r _ [9, 10, 11, 12, 13, 14, 15, 41, 42, 43, 44, 45, 46, 47, 48] (by decide +kernel) (by decide +kernel)
set_option maxRecDepth 20000 in
theorem gX3_bareWith_X0_amountNow_n132 : GoodIn wsX3_bareWith (wsX0_amountNow) := ggX3_bareWith_X0_amountNow
set_option maxRecDepth 20000 in
theorem ggX3_bareWith_X3_pieceAt : GoodIn wsX3_bareWith wsX3_pieceAt := goodIn_r _ [19, 20, 32, 33, 34, 35, 36, 37, 38, 39, 40] (by decide +kernel) (by decide +kernel)
set_option maxRecDepth 20000 in
theorem gX3_bareWith_X3_pieceAt : GoodIn wsX3_bareWith (wsV RX3 149 RX3 yX3_pieceAt wsX3_pieceAt) := goodIn_app (goodIn_of _ (by decide +kernel)) ggX3_bareWith_X3_pieceAt
set_option maxRecDepth 20000 in
theorem ggX3_bareWith_X3_has : GoodIn wsX3_bareWith wsX3_has := goodIn_r _ [23] (by decide +kernel) (by decide +kernel)
set_option maxRecDepth 20000 in
theorem gX3_bareWith_X3_has : GoodIn wsX3_bareWith (va_wsS RX3 220 yX3_has wsX3_has) := goodIn_app (goodIn_of _ (by decide +kernel)) ggX3_bareWith_X3_has
set_option maxRecDepth 20000 in
theorem ggX3_bareWith_X1_valueFor : GoodIn wsX3_bareWith wsX1_valueFor := goodIn_r _ [27, 28, 29, 30, 31, 12, 13, 14, 15, 49, 50, 51, 52, 53, 41, 42, 43, 44, 45, 46, 47, 48] (by decide +kernel) (by decide +kernel)
set_option maxRecDepth 20000 in
theorem gX3_bareWith_X1_valueFor_n165 : GoodIn wsX3_bareWith (wsX1_valueFor) := ggX3_bareWith_X1_valueFor
theorem dX3_bareWith_0 : decode cX3_bareWith 0 = .ok (.aload_n 1, 1) := by decide +kernel
theorem dX3_bareWith_1 : decode cX3_bareWith 1 = .ok (.invokevirtual 132, 3) := by decide +kernel
theorem dX3_bareWith_4 : decode cX3_bareWith 4 = .ok (.istore_n 3, 1) := by decide +kernel
theorem dX3_bareWith_5 : decode cX3_bareWith 5 = .ok (.iconst 0, 1) := by decide +kernel
theorem dX3_bareWith_6 : decode cX3_bareWith 6 = .ok (.istore 4, 2) := by decide +kernel
theorem dX3_bareWith_8 : decode cX3_bareWith 8 = .ok (.iload 4, 2) := by decide +kernel
theorem dX3_bareWith_10 : decode cX3_bareWith 10 = .ok (.aload_n 0, 1) := by decide +kernel
theorem dX3_bareWith_11 : decode cX3_bareWith 11 = .ok (.getfield 39, 3) := by decide +kernel
theorem dX3_bareWith_14 : decode cX3_bareWith 14 = .ok (.if_icmp .ge 40, 3) := by decide +kernel
theorem dX3_bareWith_17 : decode cX3_bareWith 17 = .ok (.aload_n 0, 1) := by decide +kernel
theorem dX3_bareWith_18 : decode cX3_bareWith 18 = .ok (.iload 4, 2) := by decide +kernel
theorem dX3_bareWith_20 : decode cX3_bareWith 20 = .ok (.invokevirtual 149, 3) := by decide +kernel
theorem dX3_bareWith_23 : decode cX3_bareWith 23 = .ok (.astore 5, 2) := by decide +kernel
theorem dX3_bareWith_25 : decode cX3_bareWith 25 = .ok (.aload 5, 2) := by decide +kernel
theorem dX3_bareWith_27 : decode cX3_bareWith 27 = .ok (.ifnull 21, 3) := by decide +kernel
theorem dX3_bareWith_30 : decode cX3_bareWith 30 = .ok (.iload_n 2, 1) := by decide +kernel
theorem dX3_bareWith_31 : decode cX3_bareWith 31 = .ok (.iload 4, 2) := by decide +kernel
theorem dX3_bareWith_33 : decode cX3_bareWith 33 = .ok (.invokestatic 220, 3) := by decide +kernel
theorem dX3_bareWith_36 : decode cX3_bareWith 36 = .ok (.ifCond .eq 12, 3) := by decide +kernel
theorem dX3_bareWith_39 : decode cX3_bareWith 39 = .ok (.iload_n 3, 1) := by decide +kernel
theorem dX3_bareWith_40 : decode cX3_bareWith 40 = .ok (.aload 5, 2) := by decide +kernel
theorem dX3_bareWith_42 : decode cX3_bareWith 42 = .ok (.aload_n 1, 1) := by decide +kernel
theorem dX3_bareWith_43 : decode cX3_bareWith 43 = .ok (.invokevirtual 165, 3) := by decide +kernel
theorem dX3_bareWith_46 : decode cX3_bareWith 46 = .ok (.isub, 1) := by decide +kernel
theorem dX3_bareWith_47 : decode cX3_bareWith 47 = .ok (.istore_n 3, 1) := by decide +kernel
theorem dX3_bareWith_48 : decode cX3_bareWith 48 = .ok (.iinc 4 1, 3) := by decide +kernel
theorem dX3_bareWith_51 : decode cX3_bareWith 51 = .ok (.goto (-43), 3) := by decide +kernel
theorem dX3_bareWith_54 : decode cX3_bareWith 54 = .ok (.iload_n 3, 1) := by decide +kernel
theorem dX3_bareWith_55 : decode cX3_bareWith 55 = .ok (.iconst 0, 1) := by decide +kernel
theorem dX3_bareWith_56 : decode cX3_bareWith 56 = .ok (.invokestatic 208, 3) := by decide +kernel
theorem dX3_bareWith_59 : decode cX3_bareWith 59 = .ok (.ireturn, 1) := by decide +kernel
set_option maxRecDepth 20000 in
theorem ggX3_weightedOf_X3_at : GoodIn wsX3_weightedOf wsX3_at := goodIn_r _ [9] (by decide +kernel) (by decide +kernel)
set_option maxRecDepth 20000 in
theorem gX3_weightedOf_X3_at : GoodIn wsX3_weightedOf (va_wsS RX3 68 yX3_at wsX3_at) := goodIn_app (goodIn_of _ (by decide +kernel)) ggX3_weightedOf_X3_at
set_option maxRecDepth 20000 in
theorem ggX3_weightedOf_X3_percentOf : GoodIn wsX3_weightedOf wsX3_percentOf := goodIn_r _ [12, 13] (by decide +kernel) (by decide +kernel)
set_option maxRecDepth 20000 in
theorem gX3_weightedOf_X3_percentOf : GoodIn wsX3_weightedOf (va_wsS RX3 198 yX3_percentOf wsX3_percentOf) := goodIn_app (goodIn_of _ (by decide +kernel)) ggX3_weightedOf_X3_percentOf
theorem dX3_weightedOf_0 : decode cX3_weightedOf 0 = .ok (.aload_n 0, 1) := by decide +kernel
theorem dX3_weightedOf_1 : decode cX3_weightedOf 1 = .ok (.getfield 7, 3) := by decide +kernel
theorem dX3_weightedOf_4 : decode cX3_weightedOf 4 = .ok (.aload_n 1, 1) := by decide +kernel
theorem dX3_weightedOf_5 : decode cX3_weightedOf 5 = .ok (.getfield 123, 3) := by decide +kernel
theorem dX3_weightedOf_8 : decode cX3_weightedOf 8 = .ok (.invokestatic 68, 3) := by decide +kernel
theorem dX3_weightedOf_11 : decode cX3_weightedOf 11 = .ok (.istore_n 3, 1) := by decide +kernel
theorem dX3_weightedOf_12 : decode cX3_weightedOf 12 = .ok (.aload_n 0, 1) := by decide +kernel
theorem dX3_weightedOf_13 : decode cX3_weightedOf 13 = .ok (.getfield 7, 3) := by decide +kernel
theorem dX3_weightedOf_16 : decode cX3_weightedOf 16 = .ok (.aload_n 1, 1) := by decide +kernel
theorem dX3_weightedOf_17 : decode cX3_weightedOf 17 = .ok (.getfield 129, 3) := by decide +kernel
theorem dX3_weightedOf_20 : decode cX3_weightedOf 20 = .ok (.invokestatic 68, 3) := by decide +kernel
theorem dX3_weightedOf_23 : decode cX3_weightedOf 23 = .ok (.istore 4, 2) := by decide +kernel
theorem dX3_weightedOf_25 : decode cX3_weightedOf 25 = .ok (.iload 4, 2) := by decide +kernel
theorem dX3_weightedOf_27 : decode cX3_weightedOf 27 = .ok (.iload_n 3, 1) := by decide +kernel
theorem dX3_weightedOf_28 : decode cX3_weightedOf 28 = .ok (.if_icmp .ge 14, 3) := by decide +kernel
theorem dX3_weightedOf_31 : decode cX3_weightedOf 31 = .ok (.iload_n 2, 1) := by decide +kernel
theorem dX3_weightedOf_32 : decode cX3_weightedOf 32 = .ok (.aload_n 1, 1) := by decide +kernel
theorem dX3_weightedOf_33 : decode cX3_weightedOf 33 = .ok (.getfield 126, 3) := by decide +kernel
theorem dX3_weightedOf_36 : decode cX3_weightedOf 36 = .ok (.invokestatic 224, 3) := by decide +kernel
theorem dX3_weightedOf_39 : decode cX3_weightedOf 39 = .ok (.goto 4, 3) := by decide +kernel
theorem dX3_weightedOf_42 : decode cX3_weightedOf 42 = .ok (.iconst 0, 1) := by decide +kernel
theorem dX3_weightedOf_43 : decode cX3_weightedOf 43 = .ok (.istore 5, 2) := by decide +kernel
theorem dX3_weightedOf_45 : decode cX3_weightedOf 45 = .ok (.iload 5, 2) := by decide +kernel
theorem dX3_weightedOf_47 : decode cX3_weightedOf 47 = .ok (.iload 4, 2) := by decide +kernel
theorem dX3_weightedOf_49 : decode cX3_weightedOf 49 = .ok (.invokestatic 198, 3) := by decide +kernel
theorem dX3_weightedOf_52 : decode cX3_weightedOf 52 = .ok (.iload_n 2, 1) := by decide +kernel
theorem dX3_weightedOf_53 : decode cX3_weightedOf 53 = .ok (.iload 5, 2) := by decide +kernel
theorem dX3_weightedOf_55 : decode cX3_weightedOf 55 = .ok (.isub, 1) := by decide +kernel
theorem dX3_weightedOf_56 : decode cX3_weightedOf 56 = .ok (.iload_n 3, 1) := by decide +kernel
theorem dX3_weightedOf_57 : decode cX3_weightedOf 57 = .ok (.invokestatic 198, 3) := by decide +kernel
theorem dX3_weightedOf_60 : decode cX3_weightedOf 60 = .ok (.iadd, 1) := by decide +kernel
theorem dX3_weightedOf_61 : decode cX3_weightedOf 61 = .ok (.ireturn, 1) := by decide +kernel
set_option maxRecDepth 20000 in
theorem ggX3_bareOfParty_X3_exposureAt : GoodIn wsX3_bareOfParty wsX3_exposureAt := goodIn_r _ [7, 8, 68, 69, 70, 71, 72, 73, 74, 75, 76] (by decide +kernel) (by decide +kernel)
set_option maxRecDepth 20000 in
theorem gX3_bareOfParty_X3_exposureAt : GoodIn wsX3_bareOfParty (wsV RX3 105 RX3 yX3_exposureAt wsX3_exposureAt) := goodIn_app (goodIn_of _ (by decide +kernel)) ggX3_bareOfParty_X3_exposureAt
set_option maxRecDepth 20000 in
theorem ggX3_bareOfParty_X2_givenSet : GoodIn wsX3_bareOfParty wsX2_givenSet := goodIn_r _ [12, 13, 14, 15, 16, 10, 17, 18, 19, 20, 21, 22, 23, 24, 25, 26, 27, 28, 29, 30, 31, 32, 33, 85, 86, 87, 88, 89, 90, 91] (by decide +kernel) (by decide +kernel)
set_option maxRecDepth 20000 in
theorem gX3_bareOfParty_X2_givenSet_n176 : GoodIn wsX3_bareOfParty (wsX2_givenSet) := ggX3_bareOfParty_X2_givenSet
set_option maxRecDepth 20000 in
theorem ggX3_bareOfParty_X3_bareWith : GoodIn wsX3_bareOfParty wsX3_bareWith := goodIn_r _ [37, 38, 39, 40, 41, 42, 43, 44, 45, 46, 47, 48, 49, 6, 50, 51, 52, 53, 54, 55, 56, 57, 58, 59, 60, 61, 62, 63, 64, 65, 66, 67, 68, 69, 70, 71, 72, 73, 74, 75, 76, 77, 78, 79, 80, 81, 82, 83, 84, 92, 93, 94, 95, 96] (by decide +kernel) (by decide +kernel)
set_option maxRecDepth 20000 in
theorem gX3_bareOfParty_X3_bareWith : GoodIn wsX3_bareOfParty (wsV RX3 179 RX3 yX3_bareWith wsX3_bareWith) := goodIn_app (goodIn_of _ (by decide +kernel)) ggX3_bareOfParty_X3_bareWith
theorem dX3_bareOfParty_0 : decode cX3_bareOfParty 0 = .ok (.iconst 0, 1) := by decide +kernel
theorem dX3_bareOfParty_1 : decode cX3_bareOfParty 1 = .ok (.istore_n 2, 1) := by decide +kernel
theorem dX3_bareOfParty_2 : decode cX3_bareOfParty 2 = .ok (.iconst 0, 1) := by decide +kernel
theorem dX3_bareOfParty_3 : decode cX3_bareOfParty 3 = .ok (.istore_n 3, 1) := by decide +kernel
theorem dX3_bareOfParty_4 : decode cX3_bareOfParty 4 = .ok (.iload_n 3, 1) := by decide +kernel
theorem dX3_bareOfParty_5 : decode cX3_bareOfParty 5 = .ok (.aload_n 0, 1) := by decide +kernel
theorem dX3_bareOfParty_6 : decode cX3_bareOfParty 6 = .ok (.getfield 35, 3) := by decide +kernel
theorem dX3_bareOfParty_9 : decode cX3_bareOfParty 9 = .ok (.if_icmp .ge 47, 3) := by decide +kernel
theorem dX3_bareOfParty_12 : decode cX3_bareOfParty 12 = .ok (.aload_n 0, 1) := by decide +kernel
theorem dX3_bareOfParty_13 : decode cX3_bareOfParty 13 = .ok (.iload_n 3, 1) := by decide +kernel
theorem dX3_bareOfParty_14 : decode cX3_bareOfParty 14 = .ok (.invokevirtual 105, 3) := by decide +kernel
theorem dX3_bareOfParty_17 : decode cX3_bareOfParty 17 = .ok (.astore 4, 2) := by decide +kernel
theorem dX3_bareOfParty_19 : decode cX3_bareOfParty 19 = .ok (.aload 4, 2) := by decide +kernel
theorem dX3_bareOfParty_21 : decode cX3_bareOfParty 21 = .ok (.ifnull 29, 3) := by decide +kernel
theorem dX3_bareOfParty_24 : decode cX3_bareOfParty 24 = .ok (.aload 4, 2) := by decide +kernel
theorem dX3_bareOfParty_26 : decode cX3_bareOfParty 26 = .ok (.getfield 227, 3) := by decide +kernel
theorem dX3_bareOfParty_29 : decode cX3_bareOfParty 29 = .ok (.iload_n 1, 1) := by decide +kernel
theorem dX3_bareOfParty_30 : decode cX3_bareOfParty 30 = .ok (.if_icmp .ne 20, 3) := by decide +kernel
theorem dX3_bareOfParty_33 : decode cX3_bareOfParty 33 = .ok (.iload_n 2, 1) := by decide +kernel
theorem dX3_bareOfParty_34 : decode cX3_bareOfParty 34 = .ok (.aload_n 0, 1) := by decide +kernel
theorem dX3_bareOfParty_35 : decode cX3_bareOfParty 35 = .ok (.aload 4, 2) := by decide +kernel
theorem dX3_bareOfParty_37 : decode cX3_bareOfParty 37 = .ok (.aload_n 0, 1) := by decide +kernel
theorem dX3_bareOfParty_38 : decode cX3_bareOfParty 38 = .ok (.getfield 31, 3) := by decide +kernel
theorem dX3_bareOfParty_41 : decode cX3_bareOfParty 41 = .ok (.iload_n 3, 1) := by decide +kernel
theorem dX3_bareOfParty_42 : decode cX3_bareOfParty 42 = .ok (.invokevirtual 176, 3) := by decide +kernel
theorem dX3_bareOfParty_45 : decode cX3_bareOfParty 45 = .ok (.invokevirtual 179, 3) := by decide +kernel
theorem dX3_bareOfParty_48 : decode cX3_bareOfParty 48 = .ok (.iadd, 1) := by decide +kernel
theorem dX3_bareOfParty_49 : decode cX3_bareOfParty 49 = .ok (.istore_n 2, 1) := by decide +kernel
theorem dX3_bareOfParty_50 : decode cX3_bareOfParty 50 = .ok (.iinc 3 1, 3) := by decide +kernel
theorem dX3_bareOfParty_53 : decode cX3_bareOfParty 53 = .ok (.goto (-49), 3) := by decide +kernel
theorem dX3_bareOfParty_56 : decode cX3_bareOfParty 56 = .ok (.iload_n 2, 1) := by decide +kernel
theorem dX3_bareOfParty_57 : decode cX3_bareOfParty 57 = .ok (.ireturn, 1) := by decide +kernel
set_option maxRecDepth 20000 in
theorem ggX3_findBest_X3_fillSearch : GoodIn wsX3_findBest wsX3_fillSearch := goodIn_r _ [6, 1, 7, 8, 9, 10, 11, 12, 13, 14, 15, 16, 17, 18, 19, 20, 21, 5, 22, 23, 24, 25, 26, 27, 28, 29, 30, 31, 32, 33, 34, 35, 36, 37, 38, 39, 40, 41, 42, 43, 44, 45, 46, 47, 48, 49, 50, 51, 52, 53, 54, 55, 56, 57, 58, 59, 60, 61, 62, 63, 64, 65, 66, 67, 68, 69, 70, 71, 72, 73, 74, 75, 76, 77, 78, 79, 114, 115, 116, 117, 118, 119, 120, 121, 122, 123, 124, 125, 126, 127, 128, 129, 130, 131, 132, 133, 134, 135, 136, 137, 138, 139, 140, 141, 142] (by decide +kernel) (by decide +kernel)
set_option maxRecDepth 20000 in
theorem gX3_findBest_X3_fillSearch : GoodIn wsX3_findBest (wsV RX3 189 RX3 yX3_fillSearch wsX3_fillSearch) := goodIn_app (goodIn_of _ (by decide +kernel)) ggX3_findBest_X3_fillSearch
set_option maxRecDepth 20000 in
theorem ggX3_findBest_X2_findLeast : GoodIn wsX3_findBest wsX2_findLeast := goodIn_r _ [82, 83, 17, 39, 84, 85, 10, 86, 34, 5, 35, 87, 88, 89, 90, 91, 92, 93, 94, 95, 96, 97, 98, 79, 73, 74, 99, 100, 101, 102, 103, 104, 15, 105, 106, 107, 108, 109, 110, 111, 112, 113, 123, 124, 125, 126, 127, 128, 129] (by decide +kernel) (by decide +kernel)
set_option maxRecDepth 20000 in
theorem gX3_findBest_X2_findLeast_n230 : GoodIn wsX3_findBest (wsX2_findLeast) := ggX3_findBest_X2_findLeast
theorem dX3_findBest_0 : decode cX3_findBest 0 = .ok (.aload_n 0, 1) := by decide +kernel
theorem dX3_findBest_1 : decode cX3_findBest 1 = .ok (.invokevirtual 189, 3) := by decide +kernel
theorem dX3_findBest_4 : decode cX3_findBest 4 = .ok (.aload_n 0, 1) := by decide +kernel
theorem dX3_findBest_5 : decode cX3_findBest 5 = .ok (.getfield 31, 3) := by decide +kernel
theorem dX3_findBest_8 : decode cX3_findBest 8 = .ok (.invokevirtual 230, 3) := by decide +kernel
theorem dX3_findBest_11 : decode cX3_findBest 11 = .ok (.return_, 1) := by decide +kernel
set_option maxRecDepth 20000 in
theorem ggX3_fillSearch_X2_begin : GoodIn wsX3_fillSearch wsX2_begin := goodIn_r _ [7, 8, 9, 10, 11, 12, 13, 85, 86, 87, 88, 89, 90, 91] (by decide +kernel) (by decide +kernel)
set_option maxRecDepth 20000 in
theorem gX3_fillSearch_X2_begin_n233 : GoodIn wsX3_fillSearch (wsX2_begin) := ggX3_fillSearch_X2_begin
set_option maxRecDepth 20000 in
theorem ggX3_fillSearch_X3_exposureAt : GoodIn wsX3_fillSearch wsX3_exposureAt := goodIn_r _ [18, 19, 76, 77, 78, 79, 80, 81, 82, 83, 84] (by decide +kernel) (by decide +kernel)
set_option maxRecDepth 20000 in
theorem gX3_fillSearch_X3_exposureAt : GoodIn wsX3_fillSearch (wsV RX3 105 RX3 yX3_exposureAt wsX3_exposureAt) := goodIn_app (goodIn_of _ (by decide +kernel)) ggX3_fillSearch_X3_exposureAt
set_option maxRecDepth 20000 in
theorem ggX3_fillSearch_X3_usableFor : GoodIn wsX3_fillSearch wsX3_usableFor := goodIn_r _ [23, 3, 24, 25, 26, 17, 27, 28, 29, 30, 31, 76, 77, 78, 79, 80, 81, 82, 83, 84, 92, 93, 94, 95, 96] (by decide +kernel) (by decide +kernel)
set_option maxRecDepth 20000 in
theorem gX3_fillSearch_X3_usableFor : GoodIn wsX3_fillSearch (wsV RX3 237 RX3 yX3_usableFor wsX3_usableFor) := goodIn_app (goodIn_of _ (by decide +kernel)) ggX3_fillSearch_X3_usableFor
set_option maxRecDepth 20000 in
theorem ggX3_fillSearch_X2_setUsable : GoodIn wsX3_fillSearch wsX2_setUsable := goodIn_r _ [34, 35, 36, 17, 37, 85, 86, 87, 88, 89, 90, 91] (by decide +kernel) (by decide +kernel)
set_option maxRecDepth 20000 in
theorem gX3_fillSearch_X2_setUsable_n240 : GoodIn wsX3_fillSearch (wsX2_setUsable) := ggX3_fillSearch_X2_setUsable
set_option maxRecDepth 20000 in
theorem ggX3_fillSearch_X3_bareWith : GoodIn wsX3_fillSearch wsX3_bareWith := goodIn_r _ [41, 3, 42, 43, 10, 44, 45, 46, 47, 48, 49, 50, 51, 17, 52, 53, 24, 25, 26, 27, 28, 29, 30, 31, 54, 55, 56, 57, 58, 59, 60, 61, 76, 77, 78, 79, 80, 81, 82, 83, 84, 97, 98, 99, 100, 101, 102, 103, 104, 92, 93, 94, 95, 96] (by decide +kernel) (by decide +kernel)
set_option maxRecDepth 20000 in
theorem gX3_fillSearch_X3_bareWith : GoodIn wsX3_fillSearch (wsV RX3 179 RX3 yX3_bareWith wsX3_bareWith) := goodIn_app (goodIn_of _ (by decide +kernel)) ggX3_fillSearch_X3_bareWith
set_option maxRecDepth 20000 in
theorem ggX3_fillSearch_X3_weightedOf : GoodIn wsX3_fillSearch wsX3_weightedOf := goodIn_r _ [65, 66, 67, 9, 10, 11, 68, 69, 17, 70, 71, 51, 52, 53, 76, 77, 78, 79, 80, 81, 82, 83, 84, 97, 98, 99, 100, 101, 102, 103, 104] (by decide +kernel) (by decide +kernel)
set_option maxRecDepth 20000 in
theorem gX3_fillSearch_X3_weightedOf : GoodIn wsX3_fillSearch (wsV RX3 183 RX3 yX3_weightedOf wsX3_weightedOf) := goodIn_app (goodIn_of _ (by decide +kernel)) ggX3_fillSearch_X3_weightedOf
set_option maxRecDepth 20000 in
theorem ggX3_fillSearch_X2_setWeighted : GoodIn wsX3_fillSearch wsX2_setWeighted := goodIn_r _ [74, 75, 36, 17, 37, 85, 86, 87, 88, 89, 90, 91] (by decide +kernel) (by decide +kernel)
set_option maxRecDepth 20000 in
theorem gX3_fillSearch_X2_setWeighted_n243 : GoodIn wsX3_fillSearch (wsX2_setWeighted) := ggX3_fillSearch_X2_setWeighted
theorem dX3_fillSearch_0 : decode cX3_fillSearch 0 = .ok (.aload_n 0, 1) := by decide +kernel
theorem dX3_fillSearch_1 : decode cX3_fillSearch 1 = .ok (.getfield 31, 3) := by decide +kernel
theorem dX3_fillSearch_4 : decode cX3_fillSearch 4 = .ok (.aload_n 0, 1) := by decide +kernel
theorem dX3_fillSearch_5 : decode cX3_fillSearch 5 = .ok (.getfield 35, 3) := by decide +kernel
theorem dX3_fillSearch_8 : decode cX3_fillSearch 8 = .ok (.aload_n 0, 1) := by decide +kernel
theorem dX3_fillSearch_9 : decode cX3_fillSearch 9 = .ok (.getfield 39, 3) := by decide +kernel
theorem dX3_fillSearch_12 : decode cX3_fillSearch 12 = .ok (.invokevirtual 233, 3) := by decide +kernel
theorem dX3_fillSearch_15 : decode cX3_fillSearch 15 = .ok (.iconst 0, 1) := by decide +kernel
theorem dX3_fillSearch_16 : decode cX3_fillSearch 16 = .ok (.istore_n 1, 1) := by decide +kernel
theorem dX3_fillSearch_17 : decode cX3_fillSearch 17 = .ok (.iload_n 1, 1) := by decide +kernel
theorem dX3_fillSearch_18 : decode cX3_fillSearch 18 = .ok (.aload_n 0, 1) := by decide +kernel
theorem dX3_fillSearch_19 : decode cX3_fillSearch 19 = .ok (.getfield 35, 3) := by decide +kernel
theorem dX3_fillSearch_22 : decode cX3_fillSearch 22 = .ok (.if_icmp .ge 66, 3) := by decide +kernel
theorem dX3_fillSearch_25 : decode cX3_fillSearch 25 = .ok (.aload_n 0, 1) := by decide +kernel
theorem dX3_fillSearch_26 : decode cX3_fillSearch 26 = .ok (.iload_n 1, 1) := by decide +kernel
theorem dX3_fillSearch_27 : decode cX3_fillSearch 27 = .ok (.invokevirtual 105, 3) := by decide +kernel
theorem dX3_fillSearch_30 : decode cX3_fillSearch 30 = .ok (.astore_n 2, 1) := by decide +kernel
theorem dX3_fillSearch_31 : decode cX3_fillSearch 31 = .ok (.aload_n 2, 1) := by decide +kernel
theorem dX3_fillSearch_32 : decode cX3_fillSearch 32 = .ok (.ifnull 50, 3) := by decide +kernel
theorem dX3_fillSearch_35 : decode cX3_fillSearch 35 = .ok (.aload_n 0, 1) := by decide +kernel
theorem dX3_fillSearch_36 : decode cX3_fillSearch 36 = .ok (.getfield 31, 3) := by decide +kernel
theorem dX3_fillSearch_39 : decode cX3_fillSearch 39 = .ok (.iload_n 1, 1) := by decide +kernel
theorem dX3_fillSearch_40 : decode cX3_fillSearch 40 = .ok (.aload_n 0, 1) := by decide +kernel
theorem dX3_fillSearch_41 : decode cX3_fillSearch 41 = .ok (.iload_n 1, 1) := by decide +kernel
theorem dX3_fillSearch_42 : decode cX3_fillSearch 42 = .ok (.invokevirtual 237, 3) := by decide +kernel
theorem dX3_fillSearch_45 : decode cX3_fillSearch 45 = .ok (.invokevirtual 240, 3) := by decide +kernel
theorem dX3_fillSearch_48 : decode cX3_fillSearch 48 = .ok (.iconst 0, 1) := by decide +kernel
theorem dX3_fillSearch_49 : decode cX3_fillSearch 49 = .ok (.istore_n 3, 1) := by decide +kernel
theorem dX3_fillSearch_50 : decode cX3_fillSearch 50 = .ok (.iload_n 3, 1) := by decide +kernel
theorem dX3_fillSearch_51 : decode cX3_fillSearch 51 = .ok (.bipush 32, 2) := by decide +kernel
theorem dX3_fillSearch_53 : decode cX3_fillSearch 53 = .ok (.if_icmp .ge 29, 3) := by decide +kernel
theorem dX3_fillSearch_56 : decode cX3_fillSearch 56 = .ok (.aload_n 0, 1) := by decide +kernel
theorem dX3_fillSearch_57 : decode cX3_fillSearch 57 = .ok (.getfield 31, 3) := by decide +kernel
theorem dX3_fillSearch_60 : decode cX3_fillSearch 60 = .ok (.iload_n 1, 1) := by decide +kernel
theorem dX3_fillSearch_61 : decode cX3_fillSearch 61 = .ok (.iload_n 3, 1) := by decide +kernel
theorem dX3_fillSearch_62 : decode cX3_fillSearch 62 = .ok (.aload_n 0, 1) := by decide +kernel
theorem dX3_fillSearch_63 : decode cX3_fillSearch 63 = .ok (.aload_n 2, 1) := by decide +kernel
theorem dX3_fillSearch_64 : decode cX3_fillSearch 64 = .ok (.aload_n 0, 1) := by decide +kernel
theorem dX3_fillSearch_65 : decode cX3_fillSearch 65 = .ok (.aload_n 2, 1) := by decide +kernel
theorem dX3_fillSearch_66 : decode cX3_fillSearch 66 = .ok (.iload_n 3, 1) := by decide +kernel
theorem dX3_fillSearch_67 : decode cX3_fillSearch 67 = .ok (.invokevirtual 179, 3) := by decide +kernel
theorem dX3_fillSearch_70 : decode cX3_fillSearch 70 = .ok (.invokevirtual 183, 3) := by decide +kernel
theorem dX3_fillSearch_73 : decode cX3_fillSearch 73 = .ok (.invokevirtual 243, 3) := by decide +kernel
theorem dX3_fillSearch_76 : decode cX3_fillSearch 76 = .ok (.iinc 3 1, 3) := by decide +kernel
theorem dX3_fillSearch_79 : decode cX3_fillSearch 79 = .ok (.goto (-29), 3) := by decide +kernel
theorem dX3_fillSearch_82 : decode cX3_fillSearch 82 = .ok (.iinc 1 1, 3) := by decide +kernel
theorem dX3_fillSearch_85 : decode cX3_fillSearch 85 = .ok (.goto (-68), 3) := by decide +kernel
theorem dX3_fillSearch_88 : decode cX3_fillSearch 88 = .ok (.return_, 1) := by decide +kernel
set_option maxRecDepth 20000 in
theorem ggX3_usableFor_X3_pieceAt : GoodIn wsX3_usableFor wsX3_pieceAt := goodIn_r _ [6, 7, 11, 12, 13, 14, 15, 16, 17, 18, 19] (by decide +kernel) (by decide +kernel)
set_option maxRecDepth 20000 in
theorem gX3_usableFor_X3_pieceAt : GoodIn wsX3_usableFor (wsV RX3 149 RX3 yX3_pieceAt wsX3_pieceAt) := goodIn_app (goodIn_of _ (by decide +kernel)) ggX3_usableFor_X3_pieceAt
set_option maxRecDepth 20000 in
theorem ggX3_usableFor_X3_has : GoodIn wsX3_usableFor wsX3_has := goodIn_r _ [10] (by decide +kernel) (by decide +kernel)
set_option maxRecDepth 20000 in
theorem gX3_usableFor_X3_has : GoodIn wsX3_usableFor (va_wsS RX3 220 yX3_has wsX3_has) := goodIn_app (goodIn_of _ (by decide +kernel)) ggX3_usableFor_X3_has
theorem dX3_usableFor_0 : decode cX3_usableFor 0 = .ok (.iconst 0, 1) := by decide +kernel
theorem dX3_usableFor_1 : decode cX3_usableFor 1 = .ok (.istore_n 2, 1) := by decide +kernel
theorem dX3_usableFor_2 : decode cX3_usableFor 2 = .ok (.iconst 0, 1) := by decide +kernel
theorem dX3_usableFor_3 : decode cX3_usableFor 3 = .ok (.istore_n 3, 1) := by decide +kernel
theorem dX3_usableFor_4 : decode cX3_usableFor 4 = .ok (.iload_n 3, 1) := by decide +kernel
theorem dX3_usableFor_5 : decode cX3_usableFor 5 = .ok (.aload_n 0, 1) := by decide +kernel
theorem dX3_usableFor_6 : decode cX3_usableFor 6 = .ok (.getfield 39, 3) := by decide +kernel
theorem dX3_usableFor_9 : decode cX3_usableFor 9 = .ok (.if_icmp .ge 39, 3) := by decide +kernel
theorem dX3_usableFor_12 : decode cX3_usableFor 12 = .ok (.aload_n 0, 1) := by decide +kernel
theorem dX3_usableFor_13 : decode cX3_usableFor 13 = .ok (.iload_n 3, 1) := by decide +kernel
theorem dX3_usableFor_14 : decode cX3_usableFor 14 = .ok (.invokevirtual 149, 3) := by decide +kernel
theorem dX3_usableFor_17 : decode cX3_usableFor 17 = .ok (.astore 4, 2) := by decide +kernel
theorem dX3_usableFor_19 : decode cX3_usableFor 19 = .ok (.aload 4, 2) := by decide +kernel
theorem dX3_usableFor_21 : decode cX3_usableFor 21 = .ok (.ifnull 21, 3) := by decide +kernel
theorem dX3_usableFor_24 : decode cX3_usableFor 24 = .ok (.aload 4, 2) := by decide +kernel
theorem dX3_usableFor_26 : decode cX3_usableFor 26 = .ok (.getfield 160, 3) := by decide +kernel
theorem dX3_usableFor_29 : decode cX3_usableFor 29 = .ok (.iload_n 1, 1) := by decide +kernel
theorem dX3_usableFor_30 : decode cX3_usableFor 30 = .ok (.invokestatic 220, 3) := by decide +kernel
theorem dX3_usableFor_33 : decode cX3_usableFor 33 = .ok (.ifCond .eq 9, 3) := by decide +kernel
theorem dX3_usableFor_36 : decode cX3_usableFor 36 = .ok (.iload_n 2, 1) := by decide +kernel
theorem dX3_usableFor_37 : decode cX3_usableFor 37 = .ok (.iconst 1, 1) := by decide +kernel
theorem dX3_usableFor_38 : decode cX3_usableFor 38 = .ok (.iload_n 3, 1) := by decide +kernel
theorem dX3_usableFor_39 : decode cX3_usableFor 39 = .ok (.ishl, 1) := by decide +kernel
theorem dX3_usableFor_40 : decode cX3_usableFor 40 = .ok (.ior, 1) := by decide +kernel
theorem dX3_usableFor_41 : decode cX3_usableFor 41 = .ok (.istore_n 2, 1) := by decide +kernel
theorem dX3_usableFor_42 : decode cX3_usableFor 42 = .ok (.iinc 3 1, 3) := by decide +kernel
theorem dX3_usableFor_45 : decode cX3_usableFor 45 = .ok (.goto (-41), 3) := by decide +kernel
theorem dX3_usableFor_48 : decode cX3_usableFor 48 = .ok (.iload_n 2, 1) := by decide +kernel
theorem dX3_usableFor_49 : decode cX3_usableFor 49 = .ok (.ireturn, 1) := by decide +kernel
end
section
/-! foundation: the nest's links, the environment of a state, the class's world, rows for calls -/
def zNest : List Cond := [.methodLinkNest RX3 30 yX2_init RX3, .methodLinkNest RX3 233 yX2_begin RX3, .methodLinkNest RX3 240 yX2_setUsable RX3, .methodLinkNest RX2 41 yX3_put RX3, .methodLinkNest RX3 132 yX0_amountNow RX3, .methodLinkNest RX0 36 yX3_percentOf RX3, .methodLinkNest RX3 165 yX1_valueFor RX3, .methodLinkNest RX1 27 yX3_percentOf RX3, .methodLinkNest RX3 243 yX2_setWeighted RX3, .methodLinkNest RX3 230 yX2_findLeast RX3, .methodLinkNest RX2 49 yX3_has RX3, .methodLinkNest RX2 45 yX3_at RX3, .methodLinkNest RX3 186 yX2_bestWhole RX3, .methodLinkNest RX3 192 yX2_triedWhole RX3, .methodLinkNest RX3 176 yX2_givenSet RX3, .methodLinkNest RX3 102 yX0_init RX3, .methodLinkNest RX3 146 yX1_init RX3, .methodLinkNest RX3 172 yX2_takerOf RX3, .methodLinkNest RX3 195 yX2_wholeWithout RX3, .fieldLinkNest RX3 227 "CapitalReckoner$Exposure" "party" "I" RX3, .fieldLinkNest RX1 31 "CapitalReckoner$Exposure" "currency" "I" RX3, .fieldLinkNest RX1 34 "CapitalReckoner$Exposure" "days" "I" RX3, .fieldLinkNest RX3 123 "CapitalReckoner$Exposure" "kind" "I" RX3, .fieldLinkNest RX3 113 "CapitalReckoner$Exposure" "drawn" "I" RX3, .fieldLinkNest RX3 116 "CapitalReckoner$Exposure" "promised" "I" RX3, .fieldLinkNest RX3 129 "CapitalReckoner$Exposure" "guaranteeKind" "I" RX3, .fieldLinkNest RX3 126 "CapitalReckoner$Exposure" "guaranteeSum" "I" RX3, .fieldLinkNest RX3 157 "CapitalReckoner$Piece" "amount" "I" RX3, .fieldLinkNest RX3 160 "CapitalReckoner$Piece" "uses" "I" RX3]
theorem zNest_warm {s U : State} (hW : s.WarmedH U.vm) : ∀ w ∈ zNest, va_Nw w s → va_Nw w U := by
  intro w hw h
  simp only [zNest, List.mem_cons, List.not_mem_nil, or_false] at hw
  rcases hw with rfl | rfl | rfl | rfl | rfl | rfl | rfl | rfl | rfl | rfl | rfl | rfl | rfl | rfl | rfl | rfl | rfl | rfl | rfl | rfl | rfl | rfl | rfl | rfl | rfl | rfl | rfl | rfl | rfl <;> first | exact va_Nw.warmM hW h | exact va_Nw.warmF hW h
theorem zNest_tabs : ∀ w ∈ zNest, w.onTables = true := by
  intro w hw
  simp only [zNest, List.mem_cons, List.not_mem_nil, or_false] at hw
  rcases hw with rfl | rfl | rfl | rfl | rfl | rfl | rfl | rfl | rfl | rfl | rfl | rfl | rfl | rfl | rfl | rfl | rfl | rfl | rfl | rfl | rfl | rfl | rfl | rfl | rfl | rfl | rfl | rfl | rfl <;> rfl
abbrev zTys (cI cL cE cP : ClassId) : List (ClassId × FieldType) := [(cI, .int), (cL, .long), (cE, .object RX0), (cP, .object RX1)]
/-- what a state's tables are known to hold -/
def zE (D : va_G) (cI cL cE cP : ClassId) (U : State) : Prop := va_K D vwCl (zTys cI cL cE cP) U ∧ ∀ w ∈ zNest, va_Nw w U
theorem zE.warm {D : va_G} {cI cL cE cP : ClassId} {s U : State} (hW : s.WarmedH U.vm) (h : zE D cI cL cE cP s) : zE D cI cL cE cP U := ⟨va_K.moved hW.alike h.1, fun w hw => zNest_warm hW w hw (h.2 w hw)⟩
theorem zE.calling {D : va_G} {cI cL cE cP : ClassId} {U : State} (g : JFrame) (mk : MethodId) (a : Array Value) (h : zE D cI cL cE cP U) : zE D cI cL cE cP (U.calling g mk a) := ⟨va_K.moved (u := U) (U := U.calling g mk a) (Vm.Alike.refl U.vm) h.1, fun w hw => va_Nw.same (u := U) (U := U.calling g mk a) (zNest_tabs w hw) rfl (h.2 w hw)⟩
/-- the start of a method that only reads -/
def zPr (D : va_G) (cI cL cE cP : ClassId) (ws : va_W) (as : List Value) : Array Value → State → Prop := va_Pc as (fun U => zE D cI cL cE cP U ∧ va_P D vwCl ws U.heap)
theorem zPr_blind {D : va_G} {cI cL cE cP : ClassId} {ws : va_W} {as : List Value} : FrameBlind (zPr D cI cL cE cP ws as) := fun a U g mk q => ⟨q.1, q.2.1.calling g mk a, q.2.2⟩
theorem zPr_mk {D : va_G} {cI cL cE cP : ClassId} {ws : va_W} {as : List Value} {s : State} {H : Heap} (hE : zE D cI cL cE cP s) (hP : va_P D vwCl ws H) : ∀ U : State, U.heap = H → s.WarmedH U.vm → zPr D cI cL cE cP ws as as.toArray U := fun U hU hW => ⟨rfl, hE.warm hW, by rw [hU]; exact hP⟩
/-- the start of a method that writes -/
def zPw (D : va_G) (cI cL cE cP : ClassId) (ws : va_W) (sz : Nat) (as : List Value) : Array Value → State → Prop := va_Pc as (fun U => U.heap.size = sz ∧ zE D cI cL cE cP U ∧ va_P D vwCl ws U.heap ∧ va_D (fun _ => True) ws)
theorem zPw_blind {D : va_G} {cI cL cE cP : ClassId} {ws : va_W} {sz : Nat} {as : List Value} : FrameBlind (zPw D cI cL cE cP ws sz as) := fun a U g mk q => ⟨q.1, q.2.1, q.2.2.1.calling g mk a, q.2.2.2⟩
theorem zPw_mk {D : va_G} {cI cL cE cP : ClassId} {ws : va_W} {as : List Value} {s : State} {H : Heap} {A : Nat → Prop} (hE : zE D cI cL cE cP s) (hP : va_P D vwCl ws H) (hD : va_D A ws) : ∀ U : State, U.heap = H → s.WarmedH U.vm → zPw D cI cL cE cP ws H.size as as.toArray U := fun U hU hW => ⟨rfl, by rw [hU], hE.warm hW, by rw [hU]; exact hP, hD.weaken (fun _ _ _ _ => trivial)⟩
abbrev zB (D : va_G) (ws0 : va_W) (sz : Nat) (ws1 : va_W) (t : State) : Prop := va_P D vwCl ws1 t.heap ∧ va_D (va_A ws0 sz) ws1
/-- the end of a method that writes: its answer, and the world then -/
abbrev zQi (D : va_G) (ws0 : va_W) (sz : Nat) (post : Int32 → Prop) (ws1 : va_W) : Array Value → State → Outcome → State → Prop := va_Qi (fun (r : Int32) (_ : Unit) => post r) (fun _ t => zB D ws0 sz ws1 t) (va_A ws0 sz)
abbrev zQv (D : va_G) (ws0 : va_W) (sz : Nat) (ws1 : va_W) : Array Value → State → Outcome → State → Prop := va_Qv (fun (_ : Unit) => True) (fun _ t => zB D ws0 sz ws1 t) (va_A ws0 sz)
theorem va_A_in {A : Nat → Prop} {ws : va_W} {H0 H : Heap} {locs : List Loc} (hD : va_D A ws) (hS : va_S A H0 H locs) (hA : ∀ q, H0.size ≤ q → A q) : ∀ q, va_A ws H.size q → A q := by
  intro q hq
  rcases hq with ⟨k, e, h⟩ | h
  · exact hD.2 k (q, e) h
  · exact hA q (Nat.le_trans hS.1 h)
section ZC
variable {p : Program} {l : Launch} {e : Env} {R : Room} {s : State} {m : MethodId} {args : Array Value} {below : List Frame} {meth : Method} {c : Code} {H : Heap} {locs : List Loc} {cells slots : Nat} {Q : State → Prop} {pc : Nat} {ls : Array Slot} {rest st0 : List Value} {a : Array Value} {A : Nat → Prop} {H0 : Heap} {D : va_G}
theorem zcalli {ws0 ws1 : va_W} {mc ms : Nat} {post : Int32 → Prop} (hr : va_Run p l e R s m args below meth c H locs cells slots mc ms (F0 m pc ls st0) rest (zQi D ws0 H.size post ws1 a) (va_A ws0 H.size)) (hD : va_D A ws0) (hS : va_S A H0 H locs) (hA : ∀ q, H0.size ≤ q → A q)
    (kk : ∀ (r : Int32) (H1 : Heap) (locs1 : List Loc), post r → va_P D vwCl ws1 H1 → va_D A ws1 → va_S A H0 H1 locs1 → W p l e R s m args below meth c H1 locs1 (cells + mc) (slots + ms) Q (F0 m (pc + 3) ls (.int r :: rest))) : W p l e R s m args below meth c H locs cells slots Q (F0 m pc ls st0) :=
  va_calli hr hS (fun q _ h => va_A_in hD hS hA q h) (va_A_in hD hS hA) (fun r u t H1 locs1 ht hvm hp hB hz hk hS1 => kk r H1 locs1 hp (by rw [← ht]; exact hB.1) (hB.2.weaken (fun _ _ _ h => va_A_in hD hS hA _ h)) hS1)
theorem zcallv {ws0 ws1 : va_W} {mc ms : Nat} (hr : va_Run p l e R s m args below meth c H locs cells slots mc ms (F0 m pc ls st0) rest (zQv D ws0 H.size ws1 a) (va_A ws0 H.size)) (hD : va_D A ws0) (hS : va_S A H0 H locs) (hA : ∀ q, H0.size ≤ q → A q)
    (kk : ∀ (H1 : Heap) (locs1 : List Loc), va_P D vwCl ws1 H1 → va_D A ws1 → va_S A H0 H1 locs1 → W p l e R s m args below meth c H1 locs1 (cells + mc) (slots + ms) Q (F0 m (pc + 3) ls rest)) : W p l e R s m args below meth c H locs cells slots Q (F0 m pc ls st0) :=
  va_callv hr hS (fun q _ h => va_A_in hD hS hA q h) (va_A_in hD hS hA) (fun u t H1 locs1 ht hvm hp hB hz hk hS1 => kk H1 locs1 (by rw [← ht]; exact hB.1) (hB.2.weaken (fun _ _ _ h => va_A_in hD hS hA _ h)) hS1)
/-- a loop that only reads: the locals at its head by the number of turns -/
theorem zloop {nL head : Nat} {lv : Nat → List (Nat × Value)} {n : Nat} {ls0 : Array Slot} (hl : lv_has ls0 nL (lv 0)) (hx : ∀ ls, lv_has ls nL (lv n) → W p l e R s m args below meth c H locs cells slots Q (F0 m head ls []))
    (hs : ∀ i, i < n → (∀ ls, lv_has ls nL (lv (i + 1)) → W p l e R s m args below meth c H locs cells slots Q (F0 m head ls [])) → ∀ ls, lv_has ls nL (lv i) → W p l e R s m args below meth c H locs cells slots Q (F0 m head ls [])) : W p l e R s m args below meth c H locs cells slots Q (F0 m head ls0 []) := by
  have key : ∀ d i, i + d = n → ∀ ls, lv_has ls nL (lv i) → W p l e R s m args below meth c H locs cells slots Q (F0 m head ls []) := by
    intro d
    induction d with
    | zero => intro i hi ls h; have : i = n := by omega
              subst this; exact hx ls h
    | succ d ih => intro i hi ls h; exact hs i (by omega) (ih (i + 1) (by omega)) ls h
  exact key n 0 (by omega) ls0 hl
/-- a loop that writes -/
theorem zloopM {nL head : Nat} {lv : Nat → List (Nat × Value)} {wd : Nat → va_W} {n : Nat} {ls0 : Array Slot} (hl : lv_has ls0 nL (lv 0)) (hP : va_P D vwCl (wd 0) H) (hD : va_D A (wd 0)) (hS : va_S A H0 H locs) (hx : ∀ (H : Heap) (locs : List Loc) ls, va_P D vwCl (wd n) H → va_D A (wd n) → va_S A H0 H locs → lv_has ls nL (lv n) → W p l e R s m args below meth c H locs cells slots Q (F0 m head ls []))
    (hs : ∀ i, i < n → (∀ (H : Heap) (locs : List Loc) ls, va_P D vwCl (wd (i + 1)) H → va_D A (wd (i + 1)) → va_S A H0 H locs → lv_has ls nL (lv (i + 1)) → W p l e R s m args below meth c H locs cells slots Q (F0 m head ls [])) → ∀ (H : Heap) (locs : List Loc) ls, va_P D vwCl (wd i) H → va_D A (wd i) → va_S A H0 H locs → lv_has ls nL (lv i) → W p l e R s m args below meth c H locs cells slots Q (F0 m head ls [])) : W p l e R s m args below meth c H locs cells slots Q (F0 m head ls0 []) := by
  have key : ∀ d i, i + d = n → ∀ (H : Heap) (locs : List Loc) ls, va_P D vwCl (wd i) H → va_D A (wd i) → va_S A H0 H locs → lv_has ls nL (lv i) → W p l e R s m args below meth c H locs cells slots Q (F0 m head ls []) := by
    intro d
    induction d with
    | zero => intro i hi H locs ls h1 h2 h3 h; have : i = n := by omega
              subst this; exact hx H locs ls h1 h2 h3 h
    | succ d ih => intro i hi H locs ls h1 h2 h3 h; exact hs i (by omega) (ih (i + 1) (by omega)) H locs ls h1 h2 h3 h
  exact key n 0 (by omega) H locs ls0 hP hD hS hl
end ZC
theorem lv_re {ls : Array Slot} {nL : Nat} {l l' : List (Nat × Value)} (h : lv_has ls nL l) (e : l' = l) : lv_has ls nL l' := e ▸ h
theorem zP_re {D : va_G} {ws ws' : va_W} {H : Heap} (h : va_P D vwCl ws H) (e : ws' = ws) : va_P D vwCl ws' H := e ▸ h
theorem zD_re {A : Nat → Prop} {ws ws' : va_W} (h : va_D A ws) (e : ws' = ws) : va_D A ws' := e ▸ h
theorem zinc (a : Nat) : nI a + Int32.ofInt 1 = nI (a + 1) := nI_1 a
theorem zle_refl (x : Int32) : x ≤ x := Int32.le_refl x
-- ===== the class's world =====
def gU (g : Nat → Nat → Int32) (r i : Nat) (x : Int32) : Nat → Nat → Int32 := fun r' i' => if r' = r ∧ i' = i then x else g r' i'
def cwE (g : Nat → Nat → Int32) (i : Nat) : va_E := .inr (0, [.int (g 4 i), .int (g 7 i), .int (g 8 i), .int (g 3 i), .int (g 5 i), .int (g 6 i), .int (g 9 i), .int (g 10 i)])
def cwP (g : Nat → Nat → Int32) (j : Nat) : va_E := .inr (1, [.int (g 12 j), .int (g 13 j), .int (g 14 j), .int (g 11 j), .int (g 15 j)])
def zbk (ad : Nat → Nat) (n : Nat) : Nat → Option Nat := fun i => if i < n then some (ad (11 + i)) else none
def zcl (ad : Nat → Nat) (k : Nat) : Nat → Option Nat := fun j => if j < k then some (ad (19 + j)) else none
def cwF (cI cL cE cP : ClassId) (ad : Nat → Nat) (g : Nat → Nat → Int32) (n k : Nat) (us wb tr : Nat → Int32) (pr le : Nat → Int64) (tk gf : Int32) : va_W :=
  [(ad 0, .inr (3, [.ref (ad 1), .ref (ad 2), .ref (ad 3), .ref (ad 4), .ref (ad 5), .int (nI n), .int (nI k), .int (g 2 0), .int (g 2 1)])), (ad 1, .inl (cI, 4, .inl (g 0))), (ad 2, .inl (cI, 4, .inl (g 1))), (ad 3, .inl (cE, 8, .inr (.inr (.inr (.inr (zbk ad n)))))), (ad 4, .inl (cP, 5, .inr (.inr (.inr (.inr (zcl ad k)))))),
   (ad 5, .inr (2, [.ref (ad 6), .ref (ad 7), .ref (ad 8), .ref (ad 9), .ref (ad 10), .int tk, .int gf])), (ad 6, .inl (cI, 8, .inl us)), (ad 7, .inl (cI, 256, .inl wb)), (ad 8, .inl (cI, 8, .inl tr)), (ad 9, .inl (cL, 32, .inr (.inl pr))), (ad 10, .inl (cL, 32, .inr (.inl le)))]
def cwO (ad : Nat → Nat) (g : Nat → Nat → Int32) (n k : Nat) : va_W := (List.range n).map (fun i => (ad (11 + i), cwE g i)) ++ (List.range k).map (fun j => (ad (19 + j), cwP g j))
def cws (cI cL cE cP : ClassId) (ad : Nat → Nat) (g : Nat → Nat → Int32) (n k : Nat) (us wb tr : Nat → Int32) (pr le : Nat → Int64) (tk gf : Int32) : va_W := cwF cI cL cE cP ad g n k us wb tr pr le tk gf ++ cwO ad g n k
section ZW
variable {cI cL cE cP : ClassId} {ad : Nat → Nat} {g : Nat → Nat → Int32} {n k : Nat} {us wb tr : Nat → Int32} {pr le : Nat → Int64} {tk gf : Int32}
theorem cws_0 : (cws cI cL cE cP ad g n k us wb tr pr le tk gf)[0]? = some (ad 0, .inr (3, [.ref (ad 1), .ref (ad 2), .ref (ad 3), .ref (ad 4), .ref (ad 5), .int (nI n), .int (nI k), .int (g 2 0), .int (g 2 1)])) := rfl
theorem cws_1 : (cws cI cL cE cP ad g n k us wb tr pr le tk gf)[1]? = some (ad 1, .inl (cI, 4, .inl (g 0))) := rfl
theorem cws_2 : (cws cI cL cE cP ad g n k us wb tr pr le tk gf)[2]? = some (ad 2, .inl (cI, 4, .inl (g 1))) := rfl
theorem cws_3 : (cws cI cL cE cP ad g n k us wb tr pr le tk gf)[3]? = some (ad 3, .inl (cE, 8, .inr (.inr (.inr (.inr (zbk ad n)))))) := rfl
theorem cws_4 : (cws cI cL cE cP ad g n k us wb tr pr le tk gf)[4]? = some (ad 4, .inl (cP, 5, .inr (.inr (.inr (.inr (zcl ad k)))))) := rfl
theorem cws_5 : (cws cI cL cE cP ad g n k us wb tr pr le tk gf)[5]? = some (ad 5, .inr (2, [.ref (ad 6), .ref (ad 7), .ref (ad 8), .ref (ad 9), .ref (ad 10), .int tk, .int gf])) := rfl
theorem cws_6 : (cws cI cL cE cP ad g n k us wb tr pr le tk gf)[6]? = some (ad 6, .inl (cI, 8, .inl us)) := rfl
theorem cws_7 : (cws cI cL cE cP ad g n k us wb tr pr le tk gf)[7]? = some (ad 7, .inl (cI, 256, .inl wb)) := rfl
theorem cws_8 : (cws cI cL cE cP ad g n k us wb tr pr le tk gf)[8]? = some (ad 8, .inl (cI, 8, .inl tr)) := rfl
theorem cws_9 : (cws cI cL cE cP ad g n k us wb tr pr le tk gf)[9]? = some (ad 9, .inl (cL, 32, .inr (.inl pr))) := rfl
theorem cws_10 : (cws cI cL cE cP ad g n k us wb tr pr le tk gf)[10]? = some (ad 10, .inl (cL, 32, .inr (.inl le))) := rfl
theorem cws_E {i : Nat} (hi : i < n) : (cws cI cL cE cP ad g n k us wb tr pr le tk gf)[11 + i]? = some (ad (11 + i), cwE g i) := by
  unfold cws
  rw [List.getElem?_append_right (by show 11 ≤ _; omega)]
  show (cwO ad g n k)[11 + i - 11]? = _
  rw [show 11 + i - 11 = i by omega]
  unfold cwO
  rw [List.getElem?_append_left (by simpa using hi)]
  simp [hi]
theorem cws_P {j : Nat} (hj : j < k) : (cws cI cL cE cP ad g n k us wb tr pr le tk gf)[11 + n + j]? = some (ad (19 + j), cwP g j) := by
  unfold cws
  rw [List.getElem?_append_right (by show 11 ≤ _; omega)]
  show (cwO ad g n k)[11 + n + j - 11]? = _
  rw [show 11 + n + j - 11 = n + j by omega]
  unfold cwO
  rw [List.getElem?_append_right (by simp)]
  simp [hj]
theorem cws_s5a {x : Int32} : (cws cI cL cE cP ad g n k us wb tr pr le tk gf).set 5 (ad 5, .inr (2, [.ref (ad 6), .ref (ad 7), .ref (ad 8), .ref (ad 9), .ref (ad 10), .int x, .int gf])) = cws cI cL cE cP ad g n k us wb tr pr le x gf := rfl
theorem cws_s5b {x : Int32} : (cws cI cL cE cP ad g n k us wb tr pr le tk gf).set 5 (ad 5, .inr (2, [.ref (ad 6), .ref (ad 7), .ref (ad 8), .ref (ad 9), .ref (ad 10), .int tk, .int x])) = cws cI cL cE cP ad g n k us wb tr pr le tk x := rfl
theorem cws_s6 {f : Nat → Int32} : (cws cI cL cE cP ad g n k us wb tr pr le tk gf).set 6 (ad 6, .inl (cI, 8, .inl f)) = cws cI cL cE cP ad g n k f wb tr pr le tk gf := rfl
theorem cws_s7 {f : Nat → Int32} : (cws cI cL cE cP ad g n k us wb tr pr le tk gf).set 7 (ad 7, .inl (cI, 256, .inl f)) = cws cI cL cE cP ad g n k us f tr pr le tk gf := rfl
theorem cws_s8 {f : Nat → Int32} : (cws cI cL cE cP ad g n k us wb tr pr le tk gf).set 8 (ad 8, .inl (cI, 8, .inl f)) = cws cI cL cE cP ad g n k us wb f pr le tk gf := rfl
theorem cws_s9 {f : Nat → Int64} : (cws cI cL cE cP ad g n k us wb tr pr le tk gf).set 9 (ad 9, .inl (cL, 32, .inr (.inl f))) = cws cI cL cE cP ad g n k us wb tr f le tk gf := rfl
theorem cws_s10 {f : Nat → Int64} : (cws cI cL cE cP ad g n k us wb tr pr le tk gf).set 10 (ad 10, .inl (cL, 32, .inr (.inl f))) = cws cI cL cE cP ad g n k us wb tr pr f tk gf := rfl
end ZW

def zb (b : Bool) : Int32 := if b = true then 1 else 0
theorem znb (b : Bool) : narrow .boolean (.int (zb b)) = .int (zb b) := by cases b <;> rfl
theorem zb_eq {b : Bool} (h : zb b = 0) : b = false := by cases b <;> first | rfl | exact absurd h (by decide)
theorem zb_ne {b : Bool} (h : ¬ zb b = 0) : b = true := by cases b <;> first | rfl | exact absurd rfl h
theorem zb_t : zb true = 1 := rfl
theorem zb_f : zb false = 0 := rfl
section ZD
variable {p : Program} {l : Launch} {e : Env} {R : Room} {s : State} {m : MethodId} {args : Array Value} {below : List Frame} {meth : Method} {c : Code} {H : Heap} {locs : List Loc} {cells slots : Nat} {Q : State → Prop}
variable {cc : ByteArray} {pc : Nat} {ls : Array Slot} {rest : List Value} {D : va_G} {cl : List vw_C} {A : Nat → Prop} {a : Nat} {tys : List (ClassId × FieldType)} {ws : va_W} {H0 : Heap}
theorem ziald (hexec : p.tables.exec = Jvm.exec) (hb : c.code = cc) (hK : va_K D cl tys s) (hP : va_P D cl ws H) (q0 t0 : Nat) {cA : ClassId} {n : Nat} {f : Nat → Int32} (ha : ws[q0]? = some (a, .inl (cA, n, .inl f))) (ht : tys[t0]? = some (cA, .int)) {i : Int32} (hin : vp_in i n) {v : Int32} (hv : f i.toNatClampNeg = v) (hdg : decode cc pc = .ok (.iaload, 1))
    (kk : W p l e R s m args below meth c H locs cells slots Q (F0 m (pc + 1) ls (.int v :: rest))) : W p l e R s m args below meth c H locs cells slots Q (F0 m pc ls (.int i :: .ref a :: rest)) := by
  subst hv; exact va_iald hexec hb hK hP q0 t0 ha ht hin hdg kk
theorem zlald (hexec : p.tables.exec = Jvm.exec) (hb : c.code = cc) (hK : va_K D cl tys s) (hP : va_P D cl ws H) (q0 t0 : Nat) {cA : ClassId} {n : Nat} {f : Nat → Int64} (ha : ws[q0]? = some (a, .inl (cA, n, .inr (.inl f)))) (ht : tys[t0]? = some (cA, .long)) {i : Int32} (hin : vp_in i n) {v : Int64} (hv : f i.toNatClampNeg = v) (hdg : decode cc pc = .ok (.laload, 1))
    (kk : W p l e R s m args below meth c H locs cells slots Q (F0 m (pc + 1) ls (.long v :: rest))) : W p l e R s m args below meth c H locs cells slots Q (F0 m pc ls (.int i :: .ref a :: rest)) := by
  subst hv; exact va_lald hexec hb hK hP q0 t0 ha ht hin hdg kk
theorem ziast (hexec : p.tables.exec = Jvm.exec) (hb : c.code = cc) (hK : va_K D cl tys s) (hP : va_P D cl ws H) (hD : va_D A ws) (hS : va_S A H0 H locs) (q0 t0 : Nat) {cA : ClassId} {n : Nat} {f : Nat → Int32} (ha : ws[q0]? = some (a, .inl (cA, n, .inl f))) (ht : tys[t0]? = some (cA, .int)) {i : Int32} {x : Int32} (hin : vp_in i n) {f2 : Nat → Int32} (hv : upd f i.toNatClampNeg x = f2) (hdg : decode cc pc = .ok (.iastore, 1))
    (kk : ∀ (H1 : Heap) (locs1 : List Loc), va_P D cl (ws.set q0 (a, .inl (cA, n, .inl f2))) H1 → va_D A (ws.set q0 (a, .inl (cA, n, .inl f2))) → va_S A H0 H1 locs1 → W p l e R s m args below meth c H1 locs1 cells slots Q (F0 m (pc + 1) ls rest)) : W p l e R s m args below meth c H locs cells slots Q (F0 m pc ls (.int x :: .int i :: .ref a :: rest)) := by
  subst hv; exact va_iast hexec hb hK hP hD hS q0 t0 ha ht hin hdg kk
theorem zlast (hexec : p.tables.exec = Jvm.exec) (hb : c.code = cc) (hK : va_K D cl tys s) (hP : va_P D cl ws H) (hD : va_D A ws) (hS : va_S A H0 H locs) (q0 t0 : Nat) {cA : ClassId} {n : Nat} {f : Nat → Int64} (ha : ws[q0]? = some (a, .inl (cA, n, .inr (.inl f)))) (ht : tys[t0]? = some (cA, .long)) {i : Int32} {x : Int64} (hin : vp_in i n) {f2 : Nat → Int64} (hv : vp_updL f i.toNatClampNeg x = f2) (hdg : decode cc pc = .ok (.lastore, 1))
    (kk : ∀ (H1 : Heap) (locs1 : List Loc), va_P D cl (ws.set q0 (a, .inl (cA, n, .inr (.inl f2)))) H1 → va_D A (ws.set q0 (a, .inl (cA, n, .inr (.inl f2)))) → va_S A H0 H1 locs1 → W p l e R s m args below meth c H1 locs1 cells slots Q (F0 m (pc + 1) ls rest)) : W p l e R s m args below meth c H locs cells slots Q (F0 m pc ls (.long x :: .int i :: .ref a :: rest)) := by
  subst hv; exact va_last hexec hb hK hP hD hS q0 t0 ha ht hin hdg kk
theorem zvret {W0 W1 : va_W} (hx : p.tables.exec = Jvm.exec) (hb : c.code = cc) (hr : meth.sig.returnType = none) (hAe : A = va_A W0 s.heap.size) (hP : va_P D vwCl W1 H) (hD : va_D A W1) (hS : va_S A s.heap H locs) (hdg : decode cc pc = .ok (.return_, 1)) (hlocks : meth.locks = false := by assumption) :
    W p l e R s m args below meth c H locs cells slots (MQ below (zQv D W0 s.heap.size W1) args s cells slots (va_A W0 s.heap.size)) (F0 m pc ls []) := by
  subst hAe
  exact W.vret hx hb hr (fun t ht hW => ⟨⟨(), rfl, trivial, by rw [ht]; exact hP, hD⟩, hS.F ht⟩) hS.2.2 hdg
theorem ziret {W0 W1 : va_W} {v : Int32} {post : Int32 → Prop} (hx : p.tables.exec = Jvm.exec) (hb : c.code = cc) (hr : meth.sig.returnType = some .int) (hAe : A = va_A W0 s.heap.size) (hv : post v) (hP : va_P D vwCl W1 H) (hD : va_D A W1) (hS : va_S A s.heap H locs) (hdg : decode cc pc = .ok (.ireturn, 1)) (hlocks : meth.locks = false := by assumption) :
    W p l e R s m args below meth c H locs cells slots (MQ below (zQi D W0 s.heap.size post W1) args s cells slots (va_A W0 s.heap.size)) (F0 m pc ls [.int v]) := by
  subst hAe
  exact W.iret hx hb hr (fun t ht hW => ⟨⟨v, (), rfl, hv, by rw [ht]; exact hP, hD⟩, hS.F ht⟩) hS.2.2 hdg
end ZD
/-- the room that the numbers have in a state -/
def zOk (g : Nat → Nat → Int32) (n k : Nat) : Prop := n ≤ 8 ∧ k ≤ 5
  ∧ (∀ c, c < 4 → (0 ≤ (g 0 c).toInt ∧ (g 0 c).toInt ≤ 400) ∧ (0 ≤ (g 1 c).toInt ∧ (g 1 c).toInt ≤ 400))
  ∧ (0 ≤ (g 2 0).toInt ∧ (g 2 0).toInt ≤ 100) ∧ (0 ≤ (g 2 1).toInt ∧ (g 2 1).toInt ≤ 1000000000)
  ∧ (∀ i, i < n → vp_in (g 3 i) 4 ∧ vp_in (g 4 i) 4 ∧ (0 ≤ (g 5 i).toInt ∧ (g 5 i).toInt ≤ 10000000) ∧ (0 ≤ (g 6 i).toInt ∧ (g 6 i).toInt ≤ 10000000) ∧ vp_in (g 7 i) 3 ∧ (1 ≤ (g 8 i).toInt ∧ (g 8 i).toInt ≤ 3650) ∧ vp_in (g 9 i) 4 ∧ (0 ≤ (g 10 i).toInt ∧ (g 10 i).toInt ≤ 10000000))
  ∧ (∀ j, j < k → (1 ≤ (g 11 j).toInt ∧ (g 11 j).toInt ≤ 10000000) ∧ (0 ≤ (g 12 j).toInt ∧ (g 12 j).toInt ≤ 100) ∧ vp_in (g 13 j) 3 ∧ (1 ≤ (g 14 j).toInt ∧ (g 14 j).toInt ≤ 3650) ∧ (0 ≤ (g 15 j).toInt ∧ (g 15 j).toInt ≤ 255))
theorem zOk.n {g : Nat → Nat → Int32} {n k : Nat} (h : zOk g n k) : n ≤ 8 := h.1
theorem zOk.k {g : Nat → Nat → Int32} {n k : Nat} (h : zOk g n k) : k ≤ 5 := h.2.1
def zexP (ad : Nat → Nat) (n : Nat) (x : Int32) (r : Option Nat) : Prop := (∃ i, i < n ∧ x = nI i ∧ r = some (ad (11 + i))) ∨ (r = none ∧ ∀ i, i < n → x ≠ nI i)
def zpiP (ad : Nat → Nat) (k : Nat) (x : Int32) (r : Option Nat) : Prop := (∃ i, i < k ∧ x = nI i ∧ r = some (ad (19 + i))) ∨ (r = none ∧ ∀ i, i < k → x ≠ nI i)
theorem zex_known {ad : Nat → Nat} {g : Nat → Nat → Int32} {n k i : Nat} {r : Option Nat} (h : zexP ad n (nI i) r) (hi : i < n) (hok : zOk g n k) : r = some (ad (11 + i)) := by
  have h8 := hok.n
  rcases h with ⟨j, hj, e, h⟩ | ⟨-, h⟩
  · rw [h, (nI_eq (by omega) (by omega)).mp e]
  · exact absurd rfl (h i hi)
theorem zpi_known {ad : Nat → Nat} {g : Nat → Nat → Int32} {n k i : Nat} {r : Option Nat} (h : zpiP ad k (nI i) r) (hi : i < k) (hok : zOk g n k) : r = some (ad (19 + i)) := by
  have h8 := hok.k
  rcases h with ⟨j, hj, e, h⟩ | ⟨-, h⟩
  · rw [h, (nI_eq (by omega) (by omega)).mp e]
  · exact absurd rfl (h i hi)
end
section
/-! the class's leaves: numbers, rows, exposures, pieces -/
def zhas (a b : Int32) : Bool := !decide ((a >>> (b &&& 31)) &&& 1 = 0)
def zwi (x lo hi : Int32) : Bool := !decide (x < lo) && !decide (hi < x)
def zat (N : Nat) (f : Nat → Int32) (i : Int32) : Int32 := if i < 0 then 0 else if nI N ≤ i then 0 else f i.toNatClampNeg
def zatL (N : Nat) (f : Nat → Int64) (i : Int32) : Int64 := if i < 0 then 0 else if nI N ≤ i then 0 else f i.toNatClampNeg
def zput (N : Nat) (f : Nat → Int32) (i x : Int32) : Nat → Int32 := if i < 0 then f else if nI N ≤ i then f else upd f i.toNatClampNeg x
def pct (s p : Int32) : Int32 := (s.toInt64 * p.toInt64 / 100).toInt32
def amt (g : Nat → Nat → Int32) (i : Nat) : Int32 := g 5 i + pct (g 6 i) 40
def vl1 (g : Nat → Nat → Int32) (j i : Nat) : Int32 := if g 13 j = g 7 i then pct (g 11 j) (100 - g 12 j) else pct (pct (g 11 j) (100 - g 12 j)) 92
def vl (g : Nat → Nat → Int32) (j i : Nat) : Int32 := if g 8 i ≤ g 14 j then vl1 g j i else ((vl1 g j i).toInt64 * (g 14 j).toInt64 / (g 8 i).toInt64).toInt32
theorem zset_self {α : Type} {ws : List α} {q0 : Nat} {x : α} (h : ws[q0]? = some x) : ws.set q0 x = ws := by
  apply List.ext_getElem?
  intro i
  by_cases hi : i = q0
  · subst hi; rw [List.getElem?_set_self (List.getElem?_eq_some_iff.mp h).1, h]
  · rw [List.getElem?_set_ne (fun e => hi e.symm)]
theorem zin_of {x : Int32} {N : Nat} (hN : N < 2 ^ 31) (h0 : ¬ x < 0) (h1 : ¬ nI N ≤ x) : vp_in x N := by
  rw [vp_in_iff]
  rw [Int32.lt_iff_toInt_lt, Int32.toInt_zero] at h0
  rw [Int32.le_iff_toInt_le, nI_toInt hN] at h1
  omega
theorem zex_lo {x : Int32} {n : Nat} (hn : n < 2 ^ 31) (h : x < 0) : ∀ i, i < n → x ≠ nI i := by
  intro i hi e; subst e; exact nI_pos (by omega) h
theorem zex_hi {x : Int32} {n N : Nat} (hn : n ≤ N) (hN : N < 2 ^ 31) (h : nI N ≤ x) : ∀ i, i < n → x ≠ nI i := by
  intro i hi e; subst e; exact nI_ge (show i < N by omega) hN h
theorem zex_in {ad : Nat → Nat} {x : Int32} {n N : Nat} (hn : n ≤ N) (hN : N < 2 ^ 31) (h0 : ¬ x < 0) (h1 : ¬ nI N ≤ x) : zexP ad n x (zbk ad n x.toNatClampNeg) := by
  obtain ⟨j, hj, rfl⟩ := vp_in_of (zin_of hN h0 h1) hN
  rw [nI_clamp (by omega)]
  by_cases h : j < n
  · exact Or.inl ⟨j, h, rfl, by simp [zbk, h]⟩
  · exact Or.inr ⟨by simp [zbk, h], fun i hi e => h (by rw [(nI_eq (by omega) (by omega)).mp e]; exact hi)⟩
theorem zpi_in {ad : Nat → Nat} {x : Int32} {n N : Nat} (hn : n ≤ N) (hN : N < 2 ^ 31) (h0 : ¬ x < 0) (h1 : ¬ nI N ≤ x) : zpiP ad n x (zcl ad n x.toNatClampNeg) := by
  obtain ⟨j, hj, rfl⟩ := vp_in_of (zin_of hN h0 h1) hN
  rw [nI_clamp (by omega)]
  by_cases h : j < n
  · exact Or.inl ⟨j, h, rfl, by simp [zcl, h]⟩
  · exact Or.inr ⟨by simp [zcl, h], fun i hi e => h (by rw [(nI_eq (by omega) (by omega)).mp e]; exact hi)⟩
theorem zrf (r : Option Nat) : va_rf r = .null ∨ ∃ a, va_rf r = .ref a := by
  cases r
  · exact Or.inl rfl
  · exact Or.inr ⟨_, rfl⟩
theorem zdpos {x : Int32} (h : 1 ≤ x.toInt) : ¬ x ≤ 0 := by
  rw [Int32.le_iff_toInt_le, Int32.toInt_zero]; omega
theorem zd64 {x : Int32} (h : 1 ≤ x.toInt) : ¬ x.toInt64 = 0 := by
  intro e
  have := congrArg Int64.toInt e
  rw [Int32.toInt_toInt64, Int64.toInt_zero] at this
  omega

set_option maxHeartbeats 4000000 in
set_option maxRecDepth 100000 in
theorem zX3_has (l : Launch) (D : va_G) (cI cL cE cP : ClassId) (ws : va_W) (a b : Int32) : Met l yX3_has wsX3_has ({ frames := 0, cells := 0, slots := 0, locals := 0 }) (zPr D cI cL cE cP (ws) [.int a, .int b]) (vp_Si (fun r : Int32 => r = zb (zhas a b))) 0 0 (fun _ => False) := by
  refine Met.ofW (cc := cX3_has) (maxL := 2) (ret := (some .boolean)) (by decide) rfl ?_
  intro p e s m args below meth c s₁ B hml hv
  obtain ⟨rfl, hE, hP⟩ := hv
  have hx := B.exec
  have hb := B.bytes
  have hr := B.returns
  have hts := atoms_spec (ws := wsX3_has) B.pre
  have hown : s.vm.findClass RX3 = some m.cls := findClass_of_methodNamed B.named
  have hlocks := B.notSynchronized
  have hK := hE.1
  have hl := lv_entry ([.int a, .int b]) (n := 2) (Nat.le_of_ble_eq_true rfl)
  rw [lg_entry_eq]
  generalize (lg_sl ([.int a, .int b]) ++ List.replicate (2 - (lg_sl ([.int a, .int b])).length) Slot.unset).toArray = ls at hl ⊢
  have hl : lv_has ls 2 [(0, .int a), (1, .int b)] := hl
  refine lv_iload_n hx hb dX3_has_0 rfl (lv_at hl 0 rfl) ?_
  refine lv_iload_n hx hb dX3_has_1 rfl (lv_at hl 1 rfl) ?_
  refine lv_ishr hx hb dX3_has_2 ?_
  refine lv_iconst (v := 1) hx hb dX3_has_3 (by decide) ?_
  refine lv_iand hx hb dX3_has_4 ?_
  refine lv_if_eq (tgt := 12) hx hb dX3_has_5 (by decide) (fun c_1 => ?_) (fun c_1 => ?_)
  · refine lv_iconst (v := 0) hx hb dX3_has_12 (by decide) ?_
    exact W.zret (v := 0) hx hb hr (by first | rfl | exact znb _) (fun t ht hW => ⟨_, rfl, (by first | rfl | (simp only [zb, zhas, c_1]; done) | (simp only [zb, zhas, c_1]; rfl) | (simp [zb, zhas, c_1]; done)), ht⟩) (fun _ h => nomatch h) dX3_has_13
  · refine lv_iconst (v := 1) hx hb dX3_has_8 (by decide) ?_
    refine lv_goto (tgt := 13) hx hb dX3_has_9 (by decide) ?_
    exact W.zret (v := 1) hx hb hr (by first | rfl | exact znb _) (fun t ht hW => ⟨_, rfl, (by first | rfl | (simp only [zb, zhas, c_1]; done) | (simp only [zb, zhas, c_1]; rfl) | (simp [zb, zhas, c_1]; done)), ht⟩) (fun _ h => nomatch h) dX3_has_13
set_option maxHeartbeats 4000000 in
set_option maxRecDepth 100000 in
theorem zX3_isWithin (l : Launch) (D : va_G) (cI cL cE cP : ClassId) (ws : va_W) (x lo hi : Int32) : Met l yX3_isWithin wsX3_isWithin ({ frames := 0, cells := 0, slots := 0, locals := 0 }) (zPr D cI cL cE cP (ws) [.int x, .int lo, .int hi]) (vp_Si (fun r : Int32 => r = zb (zwi x lo hi))) 0 0 (fun _ => False) := by
  refine Met.ofW (cc := cX3_isWithin) (maxL := 3) (ret := (some .boolean)) (by decide) rfl ?_
  intro p e s m args below meth c s₁ B hml hv
  obtain ⟨rfl, hE, hP⟩ := hv
  have hx := B.exec
  have hb := B.bytes
  have hr := B.returns
  have hts := atoms_spec (ws := wsX3_isWithin) B.pre
  have hown : s.vm.findClass RX3 = some m.cls := findClass_of_methodNamed B.named
  have hlocks := B.notSynchronized
  have hK := hE.1
  have hl := lv_entry ([.int x, .int lo, .int hi]) (n := 3) (Nat.le_of_ble_eq_true rfl)
  rw [lg_entry_eq]
  generalize (lg_sl ([.int x, .int lo, .int hi]) ++ List.replicate (3 - (lg_sl ([.int x, .int lo, .int hi])).length) Slot.unset).toArray = ls at hl ⊢
  have hl : lv_has ls 3 [(0, .int x), (1, .int lo), (2, .int hi)] := hl
  refine lv_iload_n hx hb dX3_isWithin_0 rfl (lv_at hl 1 rfl) ?_
  refine lv_iload_n hx hb dX3_isWithin_1 rfl (lv_at hl 0 rfl) ?_
  refine lv_icmp_gt (tgt := 14) hx hb dX3_isWithin_2 (by decide) (fun c_1 => ?_) (fun c_1 => ?_)
  · refine lv_iconst (v := 0) hx hb dX3_isWithin_14 (by decide) ?_
    exact W.zret (v := 0) hx hb hr (by first | rfl | exact znb _) (fun t ht hW => ⟨_, rfl, (by first | rfl | (simp only [zb, zwi, c_1]; done) | (simp only [zb, zwi, c_1]; rfl) | (simp [zb, zwi, c_1]; done)), ht⟩) (fun _ h => nomatch h) dX3_isWithin_15
  · refine lv_iload_n hx hb dX3_isWithin_5 rfl (lv_at hl 0 rfl) ?_
    refine lv_iload_n hx hb dX3_isWithin_6 rfl (lv_at hl 2 rfl) ?_
    refine lv_icmp_gt (tgt := 14) hx hb dX3_isWithin_7 (by decide) (fun c_2 => ?_) (fun c_2 => ?_)
    · refine lv_iconst (v := 0) hx hb dX3_isWithin_14 (by decide) ?_
      exact W.zret (v := 0) hx hb hr (by first | rfl | exact znb _) (fun t ht hW => ⟨_, rfl, (by first | rfl | (simp only [zb, zwi, c_1, c_2]; done) | (simp only [zb, zwi, c_1, c_2]; rfl) | (simp [zb, zwi, c_1, c_2]; done)), ht⟩) (fun _ h => nomatch h) dX3_isWithin_15
    · refine lv_iconst (v := 1) hx hb dX3_isWithin_10 (by decide) ?_
      refine lv_goto (tgt := 15) hx hb dX3_isWithin_11 (by decide) ?_
      exact W.zret (v := 1) hx hb hr (by first | rfl | exact znb _) (fun t ht hW => ⟨_, rfl, (by first | rfl | (simp only [zb, zwi, c_1, c_2]; done) | (simp only [zb, zwi, c_1, c_2]; rfl) | (simp [zb, zwi, c_1, c_2]; done)), ht⟩) (fun _ h => nomatch h) dX3_isWithin_15
set_option maxHeartbeats 4000000 in
set_option maxRecDepth 100000 in
theorem zX3_isClass (l : Launch) (D : va_G) (cI cL cE cP : ClassId) (ws : va_W) (x : Int32) : Met l yX3_isClass wsX3_isClass ({ frames := 1, cells := 0, slots := 0, locals := 22 }) (zPr D cI cL cE cP (ws) [.int x]) (vp_Si (fun r : Int32 => r = zb (zwi x 0 3))) 0 0 (fun _ => False) := by
  refine Met.ofW (cc := cX3_isClass) (maxL := 1) (ret := (some .boolean)) (by decide) rfl ?_
  intro p e s m args below meth c s₁ B hml hv
  obtain ⟨rfl, hE, hP⟩ := hv
  have hx := B.exec
  have hb := B.bytes
  have hr := B.returns
  have hts := atoms_spec (ws := wsX3_isClass) B.pre
  have hown : s.vm.findClass RX3 = some m.cls := findClass_of_methodNamed B.named
  have hlocks := B.notSynchronized
  have hK := hE.1
  have hl := lv_entry ([.int x]) (n := 1) (Nat.le_of_ble_eq_true rfl)
  rw [lg_entry_eq]
  generalize (lg_sl ([.int x]) ++ List.replicate (1 - (lg_sl ([.int x])).length) Slot.unset).toArray = ls at hl ⊢
  have hl : lv_has ls 1 [(0, .int x)] := hl
  refine lv_iload_n hx hb dX3_isClass_0 rfl (lv_at hl 0 rfl) ?_
  refine lv_iconst (v := 0) hx hb dX3_isClass_1 (by decide) ?_
  refine lv_iconst (v := 3) hx hb dX3_isClass_2 (by decide) ?_
  refine vp_callSi (va_Run.run (va_runS (As := [.int x, .int 0, .int 3]) (rest := []) ⟨hx, hb, hml, hown, hts⟩ (zX3_isWithin l D cI cL cE cP (ws) x 0 3) (va_cwS 3 hts gX3_isClass_X3_isWithin rfl rfl rfl (by decide +kernel) ⟨Nat.le_of_ble_eq_true rfl, Nat.le_of_ble_eq_true rfl⟩) ⟨zPr_blind, zPr_mk hE hP⟩ rfl rfl hl.1 rfl (lv_room (Nat.le_of_ble_eq_true rfl)) dX3_isClass_3 ⟨Nat.le_of_ble_eq_true rfl, Nat.le_of_ble_eq_true rfl⟩)) (fun r_1 e_2 => ?_)
  obtain rfl := e_2
  exact W.zret (v := zb (zwi x 0 3)) hx hb hr (by first | rfl | exact znb _) (fun t ht hW => ⟨_, rfl, (by first | rfl | (simp only []; done) | (simp only []; rfl) | (simp []; done)), ht⟩) (fun _ h => nomatch h) dX3_isClass_6
set_option maxHeartbeats 4000000 in
set_option maxRecDepth 100000 in
theorem zX3_isParty (l : Launch) (D : va_G) (cI cL cE cP : ClassId) (ws : va_W) (x : Int32) : Met l yX3_isParty wsX3_isParty ({ frames := 1, cells := 0, slots := 0, locals := 22 }) (zPr D cI cL cE cP (ws) [.int x]) (vp_Si (fun r : Int32 => r = zb (zwi x 0 3))) 0 0 (fun _ => False) := by
  refine Met.ofW (cc := cX3_isParty) (maxL := 1) (ret := (some .boolean)) (by decide) rfl ?_
  intro p e s m args below meth c s₁ B hml hv
  obtain ⟨rfl, hE, hP⟩ := hv
  have hx := B.exec
  have hb := B.bytes
  have hr := B.returns
  have hts := atoms_spec (ws := wsX3_isParty) B.pre
  have hown : s.vm.findClass RX3 = some m.cls := findClass_of_methodNamed B.named
  have hlocks := B.notSynchronized
  have hK := hE.1
  have hl := lv_entry ([.int x]) (n := 1) (Nat.le_of_ble_eq_true rfl)
  rw [lg_entry_eq]
  generalize (lg_sl ([.int x]) ++ List.replicate (1 - (lg_sl ([.int x])).length) Slot.unset).toArray = ls at hl ⊢
  have hl : lv_has ls 1 [(0, .int x)] := hl
  refine lv_iload_n hx hb dX3_isParty_0 rfl (lv_at hl 0 rfl) ?_
  refine lv_iconst (v := 0) hx hb dX3_isParty_1 (by decide) ?_
  refine lv_iconst (v := 3) hx hb dX3_isParty_2 (by decide) ?_
  refine vp_callSi (va_Run.run (va_runS (As := [.int x, .int 0, .int 3]) (rest := []) ⟨hx, hb, hml, hown, hts⟩ (zX3_isWithin l D cI cL cE cP (ws) x 0 3) (va_cwS 3 hts gX3_isParty_X3_isWithin rfl rfl rfl (by decide +kernel) ⟨Nat.le_of_ble_eq_true rfl, Nat.le_of_ble_eq_true rfl⟩) ⟨zPr_blind, zPr_mk hE hP⟩ rfl rfl hl.1 rfl (lv_room (Nat.le_of_ble_eq_true rfl)) dX3_isParty_3 ⟨Nat.le_of_ble_eq_true rfl, Nat.le_of_ble_eq_true rfl⟩)) (fun r_1 e_2 => ?_)
  obtain rfl := e_2
  exact W.zret (v := zb (zwi x 0 3)) hx hb hr (by first | rfl | exact znb _) (fun t ht hW => ⟨_, rfl, (by first | rfl | (simp only []; done) | (simp only []; rfl) | (simp []; done)), ht⟩) (fun _ h => nomatch h) dX3_isParty_6
set_option maxHeartbeats 4000000 in
set_option maxRecDepth 100000 in
theorem zX3_isCurrency (l : Launch) (D : va_G) (cI cL cE cP : ClassId) (ws : va_W) (x : Int32) : Met l yX3_isCurrency wsX3_isCurrency ({ frames := 1, cells := 0, slots := 0, locals := 22 }) (zPr D cI cL cE cP (ws) [.int x]) (vp_Si (fun r : Int32 => r = zb (zwi x 0 2))) 0 0 (fun _ => False) := by
  refine Met.ofW (cc := cX3_isCurrency) (maxL := 1) (ret := (some .boolean)) (by decide) rfl ?_
  intro p e s m args below meth c s₁ B hml hv
  obtain ⟨rfl, hE, hP⟩ := hv
  have hx := B.exec
  have hb := B.bytes
  have hr := B.returns
  have hts := atoms_spec (ws := wsX3_isCurrency) B.pre
  have hown : s.vm.findClass RX3 = some m.cls := findClass_of_methodNamed B.named
  have hlocks := B.notSynchronized
  have hK := hE.1
  have hl := lv_entry ([.int x]) (n := 1) (Nat.le_of_ble_eq_true rfl)
  rw [lg_entry_eq]
  generalize (lg_sl ([.int x]) ++ List.replicate (1 - (lg_sl ([.int x])).length) Slot.unset).toArray = ls at hl ⊢
  have hl : lv_has ls 1 [(0, .int x)] := hl
  refine lv_iload_n hx hb dX3_isCurrency_0 rfl (lv_at hl 0 rfl) ?_
  refine lv_iconst (v := 0) hx hb dX3_isCurrency_1 (by decide) ?_
  refine lv_iconst (v := 2) hx hb dX3_isCurrency_2 (by decide) ?_
  refine vp_callSi (va_Run.run (va_runS (As := [.int x, .int 0, .int 2]) (rest := []) ⟨hx, hb, hml, hown, hts⟩ (zX3_isWithin l D cI cL cE cP (ws) x 0 2) (va_cwS 3 hts gX3_isCurrency_X3_isWithin rfl rfl rfl (by decide +kernel) ⟨Nat.le_of_ble_eq_true rfl, Nat.le_of_ble_eq_true rfl⟩) ⟨zPr_blind, zPr_mk hE hP⟩ rfl rfl hl.1 rfl (lv_room (Nat.le_of_ble_eq_true rfl)) dX3_isCurrency_3 ⟨Nat.le_of_ble_eq_true rfl, Nat.le_of_ble_eq_true rfl⟩)) (fun r_1 e_2 => ?_)
  obtain rfl := e_2
  exact W.zret (v := zb (zwi x 0 2)) hx hb hr (by first | rfl | exact znb _) (fun t ht hW => ⟨_, rfl, (by first | rfl | (simp only []; done) | (simp only []; rfl) | (simp []; done)), ht⟩) (fun _ h => nomatch h) dX3_isCurrency_6
set_option maxHeartbeats 4000000 in
set_option maxRecDepth 100000 in
theorem zX3_isDays (l : Launch) (D : va_G) (cI cL cE cP : ClassId) (ws : va_W) (x : Int32) : Met l yX3_isDays wsX3_isDays ({ frames := 1, cells := 0, slots := 0, locals := 22 }) (zPr D cI cL cE cP (ws) [.int x]) (vp_Si (fun r : Int32 => r = zb (zwi x 1 3650))) 0 0 (fun _ => False) := by
  refine Met.ofW (cc := cX3_isDays) (maxL := 1) (ret := (some .boolean)) (by decide) rfl ?_
  intro p e s m args below meth c s₁ B hml hv
  obtain ⟨rfl, hE, hP⟩ := hv
  have hx := B.exec
  have hb := B.bytes
  have hr := B.returns
  have hts := atoms_spec (ws := wsX3_isDays) B.pre
  have hown : s.vm.findClass RX3 = some m.cls := findClass_of_methodNamed B.named
  have hlocks := B.notSynchronized
  have hK := hE.1
  have hl := lv_entry ([.int x]) (n := 1) (Nat.le_of_ble_eq_true rfl)
  rw [lg_entry_eq]
  generalize (lg_sl ([.int x]) ++ List.replicate (1 - (lg_sl ([.int x])).length) Slot.unset).toArray = ls at hl ⊢
  have hl : lv_has ls 1 [(0, .int x)] := hl
  refine lv_iload_n hx hb dX3_isDays_0 rfl (lv_at hl 0 rfl) ?_
  refine lv_iconst (v := 1) hx hb dX3_isDays_1 (by decide) ?_
  refine lv_sipush (v := 3650) hx hb dX3_isDays_2 (by decide) ?_
  refine vp_callSi (va_Run.run (va_runS (As := [.int x, .int 1, .int 3650]) (rest := []) ⟨hx, hb, hml, hown, hts⟩ (zX3_isWithin l D cI cL cE cP (ws) x 1 3650) (va_cwS 3 hts gX3_isDays_X3_isWithin rfl rfl rfl (by decide +kernel) ⟨Nat.le_of_ble_eq_true rfl, Nat.le_of_ble_eq_true rfl⟩) ⟨zPr_blind, zPr_mk hE hP⟩ rfl rfl hl.1 rfl (lv_room (Nat.le_of_ble_eq_true rfl)) dX3_isDays_5 ⟨Nat.le_of_ble_eq_true rfl, Nat.le_of_ble_eq_true rfl⟩)) (fun r_1 e_2 => ?_)
  obtain rfl := e_2
  exact W.zret (v := zb (zwi x 1 3650)) hx hb hr (by first | rfl | exact znb _) (fun t ht hW => ⟨_, rfl, (by first | rfl | (simp only []; done) | (simp only []; rfl) | (simp []; done)), ht⟩) (fun _ h => nomatch h) dX3_isDays_8
set_option maxHeartbeats 4000000 in
set_option maxRecDepth 100000 in
theorem zX3_isPart (l : Launch) (D : va_G) (cI cL cE cP : ClassId) (ws : va_W) (x : Int32) : Met l yX3_isPart wsX3_isPart ({ frames := 1, cells := 0, slots := 0, locals := 22 }) (zPr D cI cL cE cP (ws) [.int x]) (vp_Si (fun r : Int32 => r = zb (zwi x 0 10000000))) 0 0 (fun _ => False) := by
  refine Met.ofW (cc := cX3_isPart) (maxL := 1) (ret := (some .boolean)) (by decide) rfl ?_
  intro p e s m args below meth c s₁ B hml hv
  obtain ⟨rfl, hE, hP⟩ := hv
  have hx := B.exec
  have hb := B.bytes
  have hr := B.returns
  have hts := atoms_spec (ws := wsX3_isPart) B.pre
  have hown : s.vm.findClass RX3 = some m.cls := findClass_of_methodNamed B.named
  have hlocks := B.notSynchronized
  have hK := hE.1
  have hl := lv_entry ([.int x]) (n := 1) (Nat.le_of_ble_eq_true rfl)
  rw [lg_entry_eq]
  generalize (lg_sl ([.int x]) ++ List.replicate (1 - (lg_sl ([.int x])).length) Slot.unset).toArray = ls at hl ⊢
  have hl : lv_has ls 1 [(0, .int x)] := hl
  refine lv_iload_n hx hb dX3_isPart_0 rfl (lv_at hl 0 rfl) ?_
  refine lv_iconst (v := 0) hx hb dX3_isPart_1 (by decide) ?_
  refine lv_ldc (v := 10000000) hx hb hown (hts (.constant RX3 112 (10000000)) (by decide +kernel)) dX3_isPart_2 ?_
  refine vp_callSi (va_Run.run (va_runS (As := [.int x, .int 0, .int 10000000]) (rest := []) ⟨hx, hb, hml, hown, hts⟩ (zX3_isWithin l D cI cL cE cP (ws) x 0 10000000) (va_cwS 3 hts gX3_isPart_X3_isWithin rfl rfl rfl (by decide +kernel) ⟨Nat.le_of_ble_eq_true rfl, Nat.le_of_ble_eq_true rfl⟩) ⟨zPr_blind, zPr_mk hE hP⟩ rfl rfl hl.1 rfl (lv_room (Nat.le_of_ble_eq_true rfl)) dX3_isPart_4 ⟨Nat.le_of_ble_eq_true rfl, Nat.le_of_ble_eq_true rfl⟩)) (fun r_1 e_2 => ?_)
  obtain rfl := e_2
  exact W.zret (v := zb (zwi x 0 10000000)) hx hb hr (by first | rfl | exact znb _) (fun t ht hW => ⟨_, rfl, (by first | rfl | (simp only []; done) | (simp only []; rfl) | (simp []; done)), ht⟩) (fun _ h => nomatch h) dX3_isPart_7
set_option maxHeartbeats 4000000 in
set_option maxRecDepth 100000 in
theorem zX3_isPieceSum (l : Launch) (D : va_G) (cI cL cE cP : ClassId) (ws : va_W) (x : Int32) : Met l yX3_isPieceSum wsX3_isPieceSum ({ frames := 1, cells := 0, slots := 0, locals := 22 }) (zPr D cI cL cE cP (ws) [.int x]) (vp_Si (fun r : Int32 => r = zb (zwi x 1 10000000))) 0 0 (fun _ => False) := by
  refine Met.ofW (cc := cX3_isPieceSum) (maxL := 1) (ret := (some .boolean)) (by decide) rfl ?_
  intro p e s m args below meth c s₁ B hml hv
  obtain ⟨rfl, hE, hP⟩ := hv
  have hx := B.exec
  have hb := B.bytes
  have hr := B.returns
  have hts := atoms_spec (ws := wsX3_isPieceSum) B.pre
  have hown : s.vm.findClass RX3 = some m.cls := findClass_of_methodNamed B.named
  have hlocks := B.notSynchronized
  have hK := hE.1
  have hl := lv_entry ([.int x]) (n := 1) (Nat.le_of_ble_eq_true rfl)
  rw [lg_entry_eq]
  generalize (lg_sl ([.int x]) ++ List.replicate (1 - (lg_sl ([.int x])).length) Slot.unset).toArray = ls at hl ⊢
  have hl : lv_has ls 1 [(0, .int x)] := hl
  refine lv_iload_n hx hb dX3_isPieceSum_0 rfl (lv_at hl 0 rfl) ?_
  refine lv_iconst (v := 1) hx hb dX3_isPieceSum_1 (by decide) ?_
  refine lv_ldc (v := 10000000) hx hb hown (hts (.constant RX3 112 (10000000)) (by decide +kernel)) dX3_isPieceSum_2 ?_
  refine vp_callSi (va_Run.run (va_runS (As := [.int x, .int 1, .int 10000000]) (rest := []) ⟨hx, hb, hml, hown, hts⟩ (zX3_isWithin l D cI cL cE cP (ws) x 1 10000000) (va_cwS 3 hts gX3_isPieceSum_X3_isWithin rfl rfl rfl (by decide +kernel) ⟨Nat.le_of_ble_eq_true rfl, Nat.le_of_ble_eq_true rfl⟩) ⟨zPr_blind, zPr_mk hE hP⟩ rfl rfl hl.1 rfl (lv_room (Nat.le_of_ble_eq_true rfl)) dX3_isPieceSum_4 ⟨Nat.le_of_ble_eq_true rfl, Nat.le_of_ble_eq_true rfl⟩)) (fun r_1 e_2 => ?_)
  obtain rfl := e_2
  exact W.zret (v := zb (zwi x 1 10000000)) hx hb hr (by first | rfl | exact znb _) (fun t ht hW => ⟨_, rfl, (by first | rfl | (simp only []; done) | (simp only []; rfl) | (simp []; done)), ht⟩) (fun _ h => nomatch h) dX3_isPieceSum_7
set_option maxHeartbeats 4000000 in
set_option maxRecDepth 100000 in
theorem zX3_isUses (l : Launch) (D : va_G) (cI cL cE cP : ClassId) (ws : va_W) (x : Int32) : Met l yX3_isUses wsX3_isUses ({ frames := 1, cells := 0, slots := 0, locals := 22 }) (zPr D cI cL cE cP (ws) [.int x]) (vp_Si (fun r : Int32 => r = zb (zwi x 0 255))) 0 0 (fun _ => False) := by
  refine Met.ofW (cc := cX3_isUses) (maxL := 1) (ret := (some .boolean)) (by decide) rfl ?_
  intro p e s m args below meth c s₁ B hml hv
  obtain ⟨rfl, hE, hP⟩ := hv
  have hx := B.exec
  have hb := B.bytes
  have hr := B.returns
  have hts := atoms_spec (ws := wsX3_isUses) B.pre
  have hown : s.vm.findClass RX3 = some m.cls := findClass_of_methodNamed B.named
  have hlocks := B.notSynchronized
  have hK := hE.1
  have hl := lv_entry ([.int x]) (n := 1) (Nat.le_of_ble_eq_true rfl)
  rw [lg_entry_eq]
  generalize (lg_sl ([.int x]) ++ List.replicate (1 - (lg_sl ([.int x])).length) Slot.unset).toArray = ls at hl ⊢
  have hl : lv_has ls 1 [(0, .int x)] := hl
  refine lv_iload_n hx hb dX3_isUses_0 rfl (lv_at hl 0 rfl) ?_
  refine lv_iconst (v := 0) hx hb dX3_isUses_1 (by decide) ?_
  refine lv_sipush (v := 255) hx hb dX3_isUses_2 (by decide) ?_
  refine vp_callSi (va_Run.run (va_runS (As := [.int x, .int 0, .int 255]) (rest := []) ⟨hx, hb, hml, hown, hts⟩ (zX3_isWithin l D cI cL cE cP (ws) x 0 255) (va_cwS 3 hts gX3_isUses_X3_isWithin rfl rfl rfl (by decide +kernel) ⟨Nat.le_of_ble_eq_true rfl, Nat.le_of_ble_eq_true rfl⟩) ⟨zPr_blind, zPr_mk hE hP⟩ rfl rfl hl.1 rfl (lv_room (Nat.le_of_ble_eq_true rfl)) dX3_isUses_5 ⟨Nat.le_of_ble_eq_true rfl, Nat.le_of_ble_eq_true rfl⟩)) (fun r_1 e_2 => ?_)
  obtain rfl := e_2
  exact W.zret (v := zb (zwi x 0 255)) hx hb hr (by first | rfl | exact znb _) (fun t ht hW => ⟨_, rfl, (by first | rfl | (simp only []; done) | (simp only []; rfl) | (simp []; done)), ht⟩) (fun _ h => nomatch h) dX3_isUses_8
set_option maxHeartbeats 4000000 in
set_option maxRecDepth 100000 in
theorem zX3_percentOf (l : Launch) (D : va_G) (cI cL cE cP : ClassId) (ws : va_W) (s0 p0 : Int32) : Met l yX3_percentOf wsX3_percentOf ({ frames := 0, cells := 0, slots := 0, locals := 0 }) (zPr D cI cL cE cP (ws) [.int s0, .int p0]) (vp_Si (fun r : Int32 => r = pct s0 p0)) 0 0 (fun _ => False) := by
  refine Met.ofW (cc := cX3_percentOf) (maxL := 2) (ret := (some .int)) (by decide) rfl ?_
  intro p e s m args below meth c s₁ B hml hv
  obtain ⟨rfl, hE, hP⟩ := hv
  have hx := B.exec
  have hb := B.bytes
  have hr := B.returns
  have hts := atoms_spec (ws := wsX3_percentOf) B.pre
  have hown : s.vm.findClass RX3 = some m.cls := findClass_of_methodNamed B.named
  have hlocks := B.notSynchronized
  have hK := hE.1
  have hl := lv_entry ([.int s0, .int p0]) (n := 2) (Nat.le_of_ble_eq_true rfl)
  rw [lg_entry_eq]
  generalize (lg_sl ([.int s0, .int p0]) ++ List.replicate (2 - (lg_sl ([.int s0, .int p0])).length) Slot.unset).toArray = ls at hl ⊢
  have hl : lv_has ls 2 [(0, .int s0), (1, .int p0)] := hl
  refine lv_iload_n hx hb dX3_percentOf_0 rfl (lv_at hl 0 rfl) ?_
  refine lv_i2l hx hb dX3_percentOf_1 rfl ?_
  refine lv_iload_n hx hb dX3_percentOf_2 rfl (lv_at hl 1 rfl) ?_
  refine lv_i2l hx hb dX3_percentOf_3 rfl ?_
  refine lv_lmul hx hb dX3_percentOf_4 ?_
  refine lv_ldc2 (v := 100) hx hb hown (hts (.constantLong RX3 218 (100)) (by decide +kernel)) dX3_percentOf_5 ?_
  refine lv_ldiv hx hb dX3_percentOf_8 (by decide) ?_
  refine lv_l2i hx hb dX3_percentOf_9 rfl ?_
  exact W.iret (v := ((s0.toInt64 * p0.toInt64) / 100).toInt32) hx hb hr (fun t ht hW => ⟨_, rfl, (by first | rfl | (simp only [pct]; done) | (simp only [pct]; rfl) | (simp [pct]; done)), ht⟩) (fun _ h => nomatch h) dX3_percentOf_10
set_option maxHeartbeats 4000000 in
set_option maxRecDepth 100000 in
theorem zX3_at (l : Launch) (D : va_G) (cI cL cE cP : ClassId) (ws : va_W) (q0 a N : Nat) (f : Nat → Int32) (hN : N < 2 ^ 31) (hq : ws[q0]? = some (a, .inl (cI, N, .inl f))) (i : Int32) : Met l yX3_at wsX3_at ({ frames := 0, cells := 0, slots := 0, locals := 0 }) (zPr D cI cL cE cP (ws) [.ref a, .int i]) (vp_Si (fun r : Int32 => r = zat N f i)) 0 0 (fun _ => False) := by
  refine Met.ofW (cc := cX3_at) (maxL := 2) (ret := (some .int)) (by decide) rfl ?_
  intro p e s m args below meth c s₁ B hml hv
  obtain ⟨rfl, hE, hP⟩ := hv
  have hx := B.exec
  have hb := B.bytes
  have hr := B.returns
  have hts := atoms_spec (ws := wsX3_at) B.pre
  have hown : s.vm.findClass RX3 = some m.cls := findClass_of_methodNamed B.named
  have hlocks := B.notSynchronized
  have hK := hE.1
  have hl := lv_entry ([.ref a, .int i]) (n := 2) (Nat.le_of_ble_eq_true rfl)
  rw [lg_entry_eq]
  generalize (lg_sl ([.ref a, .int i]) ++ List.replicate (2 - (lg_sl ([.ref a, .int i])).length) Slot.unset).toArray = ls at hl ⊢
  have hl : lv_has ls 2 [(0, .ref a), (1, .int i)] := hl
  refine lv_iconst (v := 0) hx hb dX3_at_0 (by decide) ?_
  refine lv_iload_n hx hb dX3_at_1 rfl (lv_at hl 1 rfl) ?_
  refine lv_icmp_gt (tgt := 17) hx hb dX3_at_2 (by decide) (fun c_1 => ?_) (fun c_1 => ?_)
  · refine lv_iconst (v := 0) hx hb dX3_at_17 (by decide) ?_
    exact W.iret (v := 0) hx hb hr (fun t ht hW => ⟨_, rfl, (by first | rfl | (simp only [zat, c_1]; done) | (simp only [zat, c_1]; rfl) | (simp [zat, c_1]; done)), ht⟩) (fun _ h => nomatch h) dX3_at_18
  · refine lv_iload_n hx hb dX3_at_5 rfl (lv_at hl 1 rfl) ?_
    refine lv_aload_n hx hb dX3_at_6 rfl (lv_at hl 0 rfl) ?_
    refine va_alen (v := nI N) hx hb hK hP q0 0 hq rfl (by first | rfl | decide) dX3_at_7 ?_
    refine lv_icmp_ge (tgt := 17) hx hb dX3_at_8 (by decide) (fun c_2 => ?_) (fun c_2 => ?_)
    · refine lv_iconst (v := 0) hx hb dX3_at_17 (by decide) ?_
      exact W.iret (v := 0) hx hb hr (fun t ht hW => ⟨_, rfl, (by first | rfl | (simp only [zat, c_1, c_2]; done) | (simp only [zat, c_1, c_2]; rfl) | (simp [zat, c_1, c_2]; done)), ht⟩) (fun _ h => nomatch h) dX3_at_18
    · refine lv_aload_n hx hb dX3_at_11 rfl (lv_at hl 0 rfl) ?_
      refine lv_iload_n hx hb dX3_at_12 rfl (lv_at hl 1 rfl) ?_
      refine ziald (v := f i.toNatClampNeg) hx hb hK hP q0 0 hq rfl (zin_of hN c_1 c_2) (rfl) dX3_at_13 ?_
      refine lv_goto (tgt := 18) hx hb dX3_at_14 (by decide) ?_
      exact W.iret (v := f i.toNatClampNeg) hx hb hr (fun t ht hW => ⟨_, rfl, (by first | rfl | (simp only [zat, c_1, c_2]; done) | (simp only [zat, c_1, c_2]; rfl) | (simp [zat, c_1, c_2]; done)), ht⟩) (fun _ h => nomatch h) dX3_at_18
set_option maxHeartbeats 4000000 in
set_option maxRecDepth 100000 in
theorem zX3_put (l : Launch) (D : va_G) (cI cL cE cP : ClassId) (ws : va_W) (q0 a N : Nat) (f : Nat → Int32) (hN : N < 2 ^ 31) (hq : ws[q0]? = some (a, .inl (cI, N, .inl f))) (i x : Int32) (sz : Nat) : Met l yX3_put wsX3_put ({ frames := 0, cells := 0, slots := 0, locals := 0 }) (zPw D cI cL cE cP (ws) sz [.ref a, .int i, .int x]) (zQv D (ws) sz (ws.set q0 (a, .inl (cI, N, .inl (zput N f i x))))) 0 0 (va_A (ws) sz) := by
  refine Met.ofW (cc := cX3_put) (maxL := 3) (ret := none) (by decide) rfl ?_
  intro p e s m args below meth c s₁ B hml hv
  obtain ⟨rfl, hsz, hE, hP, hD0⟩ := hv
  subst hsz
  obtain ⟨A, hAe⟩ : ∃ A, A = va_A (ws) s.heap.size := ⟨_, rfl⟩
  have hD : va_D A (ws) := by rw [hAe]; exact hD0.self
  have hA : ∀ q : Nat, s.heap.size ≤ q → A q := fun q h => by rw [hAe]; exact Or.inr h
  have hS : va_S A s.heap s.heap [] := va_S.rf
  have hx := B.exec
  have hb := B.bytes
  have hr := B.returns
  have hts := atoms_spec (ws := wsX3_put) B.pre
  have hown : s.vm.findClass RX3 = some m.cls := findClass_of_methodNamed B.named
  have hlocks := B.notSynchronized
  have hK := hE.1
  have hl := lv_entry ([.ref a, .int i, .int x]) (n := 3) (Nat.le_of_ble_eq_true rfl)
  rw [lg_entry_eq]
  generalize (lg_sl ([.ref a, .int i, .int x]) ++ List.replicate (3 - (lg_sl ([.ref a, .int i, .int x])).length) Slot.unset).toArray = ls at hl ⊢
  have hl : lv_has ls 3 [(0, .ref a), (1, .int i), (2, .int x)] := hl
  refine lv_iconst (v := 0) hx hb dX3_put_0 (by decide) ?_
  refine lv_iload_n hx hb dX3_put_1 rfl (lv_at hl 1 rfl) ?_
  refine lv_icmp_gt (tgt := 15) hx hb dX3_put_2 (by decide) (fun c_1 => ?_) (fun c_1 => ?_)
  · exact zvret hx hb hr hAe (zP_re hP (by simp [zput, c_1, zset_self hq])) (zD_re hD (by simp [zput, c_1, zset_self hq])) hS dX3_put_15
  · refine lv_iload_n hx hb dX3_put_5 rfl (lv_at hl 1 rfl) ?_
    refine lv_aload_n hx hb dX3_put_6 rfl (lv_at hl 0 rfl) ?_
    refine va_alen (v := nI N) hx hb hK hP q0 0 hq rfl (by first | rfl | decide) dX3_put_7 ?_
    refine lv_icmp_ge (tgt := 15) hx hb dX3_put_8 (by decide) (fun c_2 => ?_) (fun c_2 => ?_)
    · exact zvret hx hb hr hAe (zP_re hP (by simp [zput, c_1, c_2, zset_self hq])) (zD_re hD (by simp [zput, c_1, c_2, zset_self hq])) hS dX3_put_15
    · refine lv_aload_n hx hb dX3_put_11 rfl (lv_at hl 0 rfl) ?_
      refine lv_iload_n hx hb dX3_put_12 rfl (lv_at hl 1 rfl) ?_
      refine lv_iload_n hx hb dX3_put_13 rfl (lv_at hl 2 rfl) ?_
      refine ziast (f2 := upd f i.toNatClampNeg x) hx hb hK hP hD hS q0 0 hq rfl (zin_of hN c_1 c_2) (rfl) dX3_put_14 (fun H locs hP hD hS => ?_)
      have hP : va_P D vwCl (ws.set q0 (a, .inl (cI, N, .inl (upd f i.toNatClampNeg x)))) H := hP
      have hD : va_D A (ws.set q0 (a, .inl (cI, N, .inl (upd f i.toNatClampNeg x)))) := hD
      exact zvret hx hb hr hAe (zP_re hP (by simp [zput, c_1, c_2, zset_self hq])) (zD_re hD (by simp [zput, c_1, c_2, zset_self hq])) hS dX3_put_15
set_option maxHeartbeats 4000000 in
set_option maxRecDepth 100000 in
theorem zX3_exposureAt (l : Launch) (D : va_G) (cI cL cE cP : ClassId) (ad : Nat → Nat) (g : Nat → Nat → Int32) (n k : Nat) (us wb tr : Nat → Int32) (pr le : Nat → Int64) (tk gf : Int32) (hok : zOk g n k) (x : Int32) : Met l yX3_exposureAt wsX3_exposureAt ({ frames := 0, cells := 0, slots := 0, locals := 0 }) (zPr D cI cL cE cP (cws cI cL cE cP ad g n k us wb tr pr le tk gf) [.ref (ad 0), .int x]) (va_Sq (fun r : Option Nat => zexP ad n x r)) 0 0 (fun _ => False) := by
  refine Met.ofW (cc := cX3_exposureAt) (maxL := 2) (ret := (some (.object "CapitalReckoner$Exposure"))) (by decide) rfl ?_
  intro p e s m args below meth c s₁ B hml hv
  obtain ⟨rfl, hE, hP⟩ := hv
  have hx := B.exec
  have hb := B.bytes
  have hr := B.returns
  have hts := atoms_spec (ws := wsX3_exposureAt) B.pre
  have hown : s.vm.findClass RX3 = some m.cls := findClass_of_methodNamed B.named
  have hlocks := B.notSynchronized
  have hK := hE.1
  have iX3 : ∀ w ∈ wsX30, w ∈ wsX3_exposureAt := by decide +kernel
  have hl := lv_entry ([.ref (ad 0), .int x]) (n := 2) (Nat.le_of_ble_eq_true rfl)
  rw [lg_entry_eq]
  generalize (lg_sl ([.ref (ad 0), .int x]) ++ List.replicate (2 - (lg_sl ([.ref (ad 0), .int x])).length) Slot.unset).toArray = ls at hl ⊢
  have hl : lv_has ls 2 [(0, .ref (ad 0)), (1, .int x)] := hl
  refine lv_iconst (v := 0) hx hb dX3_exposureAt_0 (by decide) ?_
  refine lv_iload_n hx hb dX3_exposureAt_1 rfl (lv_at hl 1 rfl) ?_
  refine lv_icmp_gt (tgt := 23) hx hb dX3_exposureAt_2 (by decide) (fun c_1 => ?_) (fun c_1 => ?_)
  · refine lv_null hx hb dX3_exposureAt_23 ?_
    exact W.aret (v := va_rf (none)) hx hb hr (Or.inl ⟨_, rfl⟩) (zrf _) (fun t ht hW => ⟨_, rfl, (by first | exact Or.inr ⟨rfl, zex_lo (by have := hok.n; omega) c_1⟩ | exact Or.inr ⟨rfl, zex_hi (N := 8) hok.n (by decide) c_2⟩ | exact zex_in (N := 8) hok.n (by decide) c_1 c_2), ht⟩) (fun _ h => nomatch h) dX3_exposureAt_24
  · refine lv_iload_n hx hb dX3_exposureAt_5 rfl (lv_at hl 1 rfl) ?_
    refine lv_aload_n hx hb dX3_exposureAt_6 rfl (lv_at hl 0 rfl) ?_
    refine va_get (D := D) (ci := 3) (v := .ref (ad 3)) (C := RX3) (T := TX3) (N := 9) hx hb hts iX3 hown hK hP 0 cws_0 rfl 2 (by decide) (hts (.fieldLink RX3 18 "CapitalReckoner" "book" "[LCapitalReckoner$Exposure;") (by decide +kernel)) (fun _ h9 => h9) rfl dX3_exposureAt_7 ?_
    refine va_alen (v := nI 8) hx hb hK hP 3 2 cws_3 rfl (by first | rfl | decide) dX3_exposureAt_10 ?_
    refine lv_icmp_ge (tgt := 23) hx hb dX3_exposureAt_11 (by decide) (fun c_2 => ?_) (fun c_2 => ?_)
    · refine lv_null hx hb dX3_exposureAt_23 ?_
      exact W.aret (v := va_rf (none)) hx hb hr (Or.inl ⟨_, rfl⟩) (zrf _) (fun t ht hW => ⟨_, rfl, (by first | exact Or.inr ⟨rfl, zex_lo (by have := hok.n; omega) c_1⟩ | exact Or.inr ⟨rfl, zex_hi (N := 8) hok.n (by decide) c_2⟩ | exact zex_in (N := 8) hok.n (by decide) c_1 c_2), ht⟩) (fun _ h => nomatch h) dX3_exposureAt_24
    · refine lv_aload_n hx hb dX3_exposureAt_14 rfl (lv_at hl 0 rfl) ?_
      refine va_get (D := D) (ci := 3) (v := .ref (ad 3)) (C := RX3) (T := TX3) (N := 9) hx hb hts iX3 hown hK hP 0 cws_0 rfl 2 (by decide) (hts (.fieldLink RX3 18 "CapitalReckoner" "book" "[LCapitalReckoner$Exposure;") (by decide +kernel)) (fun _ h9 => h9) rfl dX3_exposureAt_15 ?_
      refine lv_iload_n hx hb dX3_exposureAt_18 rfl (lv_at hl 1 rfl) ?_
      refine va_aldq hx hb hK hP 3 2 cws_3 rfl (zin_of (N := 8) (by decide) c_1 c_2) dX3_exposureAt_19 ?_
      refine lv_goto (tgt := 24) hx hb dX3_exposureAt_20 (by decide) ?_
      exact W.aret (v := va_rf (zbk ad n x.toNatClampNeg)) hx hb hr (Or.inl ⟨_, rfl⟩) (zrf _) (fun t ht hW => ⟨_, rfl, (by first | exact Or.inr ⟨rfl, zex_lo (by have := hok.n; omega) c_1⟩ | exact Or.inr ⟨rfl, zex_hi (N := 8) hok.n (by decide) c_2⟩ | exact zex_in (N := 8) hok.n (by decide) c_1 c_2), ht⟩) (fun _ h => nomatch h) dX3_exposureAt_24
set_option maxHeartbeats 4000000 in
set_option maxRecDepth 100000 in
theorem zX3_pieceAt (l : Launch) (D : va_G) (cI cL cE cP : ClassId) (ad : Nat → Nat) (g : Nat → Nat → Int32) (n k : Nat) (us wb tr : Nat → Int32) (pr le : Nat → Int64) (tk gf : Int32) (hok : zOk g n k) (x : Int32) : Met l yX3_pieceAt wsX3_pieceAt ({ frames := 0, cells := 0, slots := 0, locals := 0 }) (zPr D cI cL cE cP (cws cI cL cE cP ad g n k us wb tr pr le tk gf) [.ref (ad 0), .int x]) (va_Sq (fun r : Option Nat => zpiP ad k x r)) 0 0 (fun _ => False) := by
  refine Met.ofW (cc := cX3_pieceAt) (maxL := 2) (ret := (some (.object "CapitalReckoner$Piece"))) (by decide) rfl ?_
  intro p e s m args below meth c s₁ B hml hv
  obtain ⟨rfl, hE, hP⟩ := hv
  have hx := B.exec
  have hb := B.bytes
  have hr := B.returns
  have hts := atoms_spec (ws := wsX3_pieceAt) B.pre
  have hown : s.vm.findClass RX3 = some m.cls := findClass_of_methodNamed B.named
  have hlocks := B.notSynchronized
  have hK := hE.1
  have iX3 : ∀ w ∈ wsX30, w ∈ wsX3_pieceAt := by decide +kernel
  have hl := lv_entry ([.ref (ad 0), .int x]) (n := 2) (Nat.le_of_ble_eq_true rfl)
  rw [lg_entry_eq]
  generalize (lg_sl ([.ref (ad 0), .int x]) ++ List.replicate (2 - (lg_sl ([.ref (ad 0), .int x])).length) Slot.unset).toArray = ls at hl ⊢
  have hl : lv_has ls 2 [(0, .ref (ad 0)), (1, .int x)] := hl
  refine lv_iconst (v := 0) hx hb dX3_pieceAt_0 (by decide) ?_
  refine lv_iload_n hx hb dX3_pieceAt_1 rfl (lv_at hl 1 rfl) ?_
  refine lv_icmp_gt (tgt := 23) hx hb dX3_pieceAt_2 (by decide) (fun c_1 => ?_) (fun c_1 => ?_)
  · refine lv_null hx hb dX3_pieceAt_23 ?_
    exact W.aret (v := va_rf (none)) hx hb hr (Or.inl ⟨_, rfl⟩) (zrf _) (fun t ht hW => ⟨_, rfl, (by first | exact Or.inr ⟨rfl, zex_lo (by have := hok.k; omega) c_1⟩ | exact Or.inr ⟨rfl, zex_hi (N := 5) hok.k (by decide) c_2⟩ | exact zpi_in (N := 5) hok.k (by decide) c_1 c_2), ht⟩) (fun _ h => nomatch h) dX3_pieceAt_24
  · refine lv_iload_n hx hb dX3_pieceAt_5 rfl (lv_at hl 1 rfl) ?_
    refine lv_aload_n hx hb dX3_pieceAt_6 rfl (lv_at hl 0 rfl) ?_
    refine va_get (D := D) (ci := 3) (v := .ref (ad 4)) (C := RX3) (T := TX3) (N := 9) hx hb hts iX3 hown hK hP 0 cws_0 rfl 3 (by decide) (hts (.fieldLink RX3 24 "CapitalReckoner" "collateral" "[LCapitalReckoner$Piece;") (by decide +kernel)) (fun _ h9 => h9) rfl dX3_pieceAt_7 ?_
    refine va_alen (v := nI 5) hx hb hK hP 4 3 cws_4 rfl (by first | rfl | decide) dX3_pieceAt_10 ?_
    refine lv_icmp_ge (tgt := 23) hx hb dX3_pieceAt_11 (by decide) (fun c_2 => ?_) (fun c_2 => ?_)
    · refine lv_null hx hb dX3_pieceAt_23 ?_
      exact W.aret (v := va_rf (none)) hx hb hr (Or.inl ⟨_, rfl⟩) (zrf _) (fun t ht hW => ⟨_, rfl, (by first | exact Or.inr ⟨rfl, zex_lo (by have := hok.k; omega) c_1⟩ | exact Or.inr ⟨rfl, zex_hi (N := 5) hok.k (by decide) c_2⟩ | exact zpi_in (N := 5) hok.k (by decide) c_1 c_2), ht⟩) (fun _ h => nomatch h) dX3_pieceAt_24
    · refine lv_aload_n hx hb dX3_pieceAt_14 rfl (lv_at hl 0 rfl) ?_
      refine va_get (D := D) (ci := 3) (v := .ref (ad 4)) (C := RX3) (T := TX3) (N := 9) hx hb hts iX3 hown hK hP 0 cws_0 rfl 3 (by decide) (hts (.fieldLink RX3 24 "CapitalReckoner" "collateral" "[LCapitalReckoner$Piece;") (by decide +kernel)) (fun _ h9 => h9) rfl dX3_pieceAt_15 ?_
      refine lv_iload_n hx hb dX3_pieceAt_18 rfl (lv_at hl 1 rfl) ?_
      refine va_aldq hx hb hK hP 4 3 cws_4 rfl (zin_of (N := 5) (by decide) c_1 c_2) dX3_pieceAt_19 ?_
      refine lv_goto (tgt := 24) hx hb dX3_pieceAt_20 (by decide) ?_
      exact W.aret (v := va_rf (zcl ad k x.toNatClampNeg)) hx hb hr (Or.inl ⟨_, rfl⟩) (zrf _) (fun t ht hW => ⟨_, rfl, (by first | exact Or.inr ⟨rfl, zex_lo (by have := hok.k; omega) c_1⟩ | exact Or.inr ⟨rfl, zex_hi (N := 5) hok.k (by decide) c_2⟩ | exact zpi_in (N := 5) hok.k (by decide) c_1 c_2), ht⟩) (fun _ h => nomatch h) dX3_pieceAt_24
set_option maxHeartbeats 4000000 in
set_option maxRecDepth 100000 in
theorem zX0_amountNow (l : Launch) (D : va_G) (cI cL cE cP : ClassId) (ad : Nat → Nat) (g : Nat → Nat → Int32) (n k : Nat) (us wb tr : Nat → Int32) (pr le : Nat → Int64) (tk gf : Int32) (hok : zOk g n k) (i : Nat) (hi : i < n) : Met l yX0_amountNow wsX0_amountNow ({ frames := 1, cells := 0, slots := 0, locals := 21 }) (zPr D cI cL cE cP (cws cI cL cE cP ad g n k us wb tr pr le tk gf) [.ref (ad (11 + i))]) (vp_Si (fun r : Int32 => r = amt g i)) 0 0 (fun _ => False) := by
  refine Met.ofW (cc := cX0_amountNow) (maxL := 1) (ret := (some .int)) (by decide) rfl ?_
  intro p e s m args below meth c s₁ B hml hv
  obtain ⟨rfl, hE, hP⟩ := hv
  have hx := B.exec
  have hb := B.bytes
  have hr := B.returns
  have hts := atoms_spec (ws := wsX0_amountNow) B.pre
  have hown : s.vm.findClass RX0 = some m.cls := findClass_of_methodNamed B.named
  have hlocks := B.notSynchronized
  have hK := hE.1
  have iX0 : ∀ w ∈ wsX00, w ∈ wsX0_amountNow := by decide +kernel
  have hl := lv_entry ([.ref (ad (11 + i))]) (n := 1) (Nat.le_of_ble_eq_true rfl)
  rw [lg_entry_eq]
  generalize (lg_sl ([.ref (ad (11 + i))]) ++ List.replicate (1 - (lg_sl ([.ref (ad (11 + i))])).length) Slot.unset).toArray = ls at hl ⊢
  have hl : lv_has ls 1 [(0, .ref (ad (11 + i)))] := hl
  refine lv_aload_n hx hb dX0_amountNow_0 rfl (lv_at hl 0 rfl) ?_
  refine va_get (D := D) (ci := 0) (v := .int (g 5 i)) (C := RX0) (T := TX0) (N := 8) hx hb hts iX0 hown hK hP (11 + i) (cws_E hi) rfl 4 (by decide) (hts (.fieldLink RX0 18 "CapitalReckoner$Exposure" "drawn" "I") (by decide +kernel)) (fun _ h9 => h9) rfl dX0_amountNow_1 ?_
  refine lv_aload_n hx hb dX0_amountNow_4 rfl (lv_at hl 0 rfl) ?_
  refine va_get (D := D) (ci := 0) (v := .int (g 6 i)) (C := RX0) (T := TX0) (N := 8) hx hb hts iX0 hown hK hP (11 + i) (cws_E hi) rfl 5 (by decide) (hts (.fieldLink RX0 21 "CapitalReckoner$Exposure" "promised" "I") (by decide +kernel)) (fun _ h9 => h9) rfl dX0_amountNow_5 ?_
  refine lv_bipush (v := 40) hx hb dX0_amountNow_8 (by decide) ?_
  refine vp_callSi (va_Run.run (va_runSN (As := [.int (g 6 i), .int 40]) (rest := [.int (g 5 i)]) ⟨hx, hb, hml, hown, hts⟩ (zX3_percentOf l D cI cL cE cP (cws cI cL cE cP ad g n k us wb tr pr le tk gf) (g 6 i) 40) ⟨va_cnB 2 hts gX0_amountNow_X3_percentOf_n36 rfl rfl rfl (hE.2 (.methodLinkNest RX0 36 yX3_percentOf RX3) (List.mem_of_getElem? (i := 5) rfl)) (hts (.initialized RX3) (by decide +kernel)) (by decide +kernel) ⟨Nat.le_of_ble_eq_true rfl, Nat.le_of_ble_eq_true rfl⟩, (hts (.static yX3_percentOf) (by decide +kernel)), trivial⟩ ⟨zPr_blind, zPr_mk hE hP⟩ rfl rfl hl.1 rfl (lv_room (Nat.le_of_ble_eq_true rfl)) dX0_amountNow_10 ⟨Nat.le_of_ble_eq_true rfl, Nat.le_of_ble_eq_true rfl⟩)) (fun r_1 e_2 => ?_)
  obtain rfl := e_2
  refine lv_iadd hx hb dX0_amountNow_13 ?_
  exact W.iret (v := (g 5 i) + (pct (g 6 i) 40)) hx hb hr (fun t ht hW => ⟨_, rfl, (by first | rfl | (simp only [amt]; done) | (simp only [amt]; rfl) | (simp [amt]; done)), ht⟩) (fun _ h => nomatch h) dX0_amountNow_14
set_option maxHeartbeats 4000000 in
set_option maxRecDepth 100000 in
theorem zX1_valueFor (l : Launch) (D : va_G) (cI cL cE cP : ClassId) (ad : Nat → Nat) (g : Nat → Nat → Int32) (n k : Nat) (us wb tr : Nat → Int32) (pr le : Nat → Int64) (tk gf : Int32) (hok : zOk g n k) (j : Nat) (hj : j < k) (i : Nat) (hi : i < n) : Met l yX1_valueFor wsX1_valueFor ({ frames := 1, cells := 0, slots := 0, locals := 21 }) (zPr D cI cL cE cP (cws cI cL cE cP ad g n k us wb tr pr le tk gf) [.ref (ad (19 + j)), .ref (ad (11 + i))]) (vp_Si (fun r : Int32 => r = vl g j i)) 0 0 (fun _ => False) := by
  refine Met.ofW (cc := cX1_valueFor) (maxL := 3) (ret := (some .int)) (by decide) rfl ?_
  intro p e s m args below meth c s₁ B hml hv
  obtain ⟨rfl, hE, hP⟩ := hv
  have hx := B.exec
  have hb := B.bytes
  have hr := B.returns
  have hts := atoms_spec (ws := wsX1_valueFor) B.pre
  have hown : s.vm.findClass RX1 = some m.cls := findClass_of_methodNamed B.named
  have hlocks := B.notSynchronized
  have hK := hE.1
  have iX0 : ∀ w ∈ wsX00, w ∈ wsX1_valueFor := by decide +kernel
  have iX1 : ∀ w ∈ wsX10, w ∈ wsX1_valueFor := by decide +kernel
  have hl := lv_entry ([.ref (ad (19 + j)), .ref (ad (11 + i))]) (n := 3) (Nat.le_of_ble_eq_true rfl)
  rw [lg_entry_eq]
  generalize (lg_sl ([.ref (ad (19 + j)), .ref (ad (11 + i))]) ++ List.replicate (3 - (lg_sl ([.ref (ad (19 + j)), .ref (ad (11 + i))])).length) Slot.unset).toArray = ls at hl ⊢
  have hl : lv_has ls 3 [(0, .ref (ad (19 + j))), (1, .ref (ad (11 + i)))] := hl
  refine lv_aload_n hx hb dX1_valueFor_0 rfl (lv_at hl 0 rfl) ?_
  refine va_get (D := D) (ci := 1) (v := .int (g 11 j)) (C := RX1) (T := TX1) (N := 5) hx hb hts iX1 hown hK hP (11 + n + j) (cws_P hj) rfl 3 (by decide) (hts (.fieldLink RX1 9 "CapitalReckoner$Piece" "amount" "I") (by decide +kernel)) (fun _ h9 => h9) rfl dX1_valueFor_1 ?_
  refine lv_bipush (v := 100) hx hb dX1_valueFor_4 (by decide) ?_
  refine lv_aload_n hx hb dX1_valueFor_6 rfl (lv_at hl 0 rfl) ?_
  refine va_get (D := D) (ci := 1) (v := .int (g 12 j)) (C := RX1) (T := TX1) (N := 5) hx hb hts iX1 hown hK hP (11 + n + j) (cws_P hj) rfl 0 (by decide) (hts (.fieldLink RX1 15 "CapitalReckoner$Piece" "haircut" "I") (by decide +kernel)) (fun _ h9 => h9) rfl dX1_valueFor_7 ?_
  refine lv_isub hx hb dX1_valueFor_10 ?_
  refine vp_callSi (va_Run.run (va_runSN (As := [.int (g 11 j), .int (100 - (g 12 j))]) (rest := []) ⟨hx, hb, hml, hown, hts⟩ (zX3_percentOf l D cI cL cE cP (cws cI cL cE cP ad g n k us wb tr pr le tk gf) (g 11 j) (100 - (g 12 j))) ⟨va_cnB 2 hts gX1_valueFor_X3_percentOf_n27 rfl rfl rfl (hE.2 (.methodLinkNest RX1 27 yX3_percentOf RX3) (List.mem_of_getElem? (i := 7) rfl)) (hts (.initialized RX3) (by decide +kernel)) (by decide +kernel) ⟨Nat.le_of_ble_eq_true rfl, Nat.le_of_ble_eq_true rfl⟩, (hts (.static yX3_percentOf) (by decide +kernel)), trivial⟩ ⟨zPr_blind, zPr_mk hE hP⟩ rfl rfl hl.1 rfl (lv_room (Nat.le_of_ble_eq_true rfl)) dX1_valueFor_11 ⟨Nat.le_of_ble_eq_true rfl, Nat.le_of_ble_eq_true rfl⟩)) (fun r_1 e_2 => ?_)
  obtain rfl := e_2
  refine lv_istore_n (lv' := [(2, .int (pct (g 11 j) (100 - (g 12 j)))), (0, .ref (ad (19 + j))), (1, .ref (ad (11 + i)))]) hx hb dX1_valueFor_14 rfl hl (by decide) rfl (fun ls hl => ?_)
  refine lv_aload_n hx hb dX1_valueFor_15 rfl (lv_at hl 1 rfl) ?_
  refine va_get (D := D) (ci := 1) (v := .int (g 13 j)) (C := RX1) (T := TX1) (N := 5) hx hb hts iX1 hown hK hP (11 + n + j) (cws_P hj) rfl 1 (by decide) (hts (.fieldLink RX1 18 "CapitalReckoner$Piece" "currency" "I") (by decide +kernel)) (fun _ h9 => h9) rfl dX1_valueFor_16 ?_
  refine lv_aload_n hx hb dX1_valueFor_19 rfl (lv_at hl 2 rfl) ?_
  refine va_getN (D := D) (ci := 0) (v := .int (g 7 i)) (C := RX0) (T := TX0) (N := 8) hx hb hts iX0 hown hK hP (11 + i) (cws_E hi) rfl 1 (by decide) (va_Nw.use rfl (hE.2 (.fieldLinkNest RX1 31 "CapitalReckoner$Exposure" "currency" "I" RX3) (List.mem_of_getElem? (i := 20) rfl))) (fun _ h9 => h9) rfl dX1_valueFor_20 ?_
  refine lv_icmp_eq (tgt := 33) hx hb dX1_valueFor_23 (by decide) (fun c_3 => ?_) (fun c_3 => ?_)
  · refine lv_aload_n hx hb dX1_valueFor_33 rfl (lv_at hl 2 rfl) ?_
    refine va_getN (D := D) (ci := 0) (v := .int (g 8 i)) (C := RX0) (T := TX0) (N := 8) hx hb hts iX0 hown hK hP (11 + i) (cws_E hi) rfl 2 (by decide) (va_Nw.use rfl (hE.2 (.fieldLinkNest RX1 34 "CapitalReckoner$Exposure" "days" "I" RX3) (List.mem_of_getElem? (i := 21) rfl))) (fun _ h9 => h9) rfl dX1_valueFor_34 ?_
    refine lv_if_le (tgt := 67) hx hb dX1_valueFor_37 (by decide) (fun c_4 => absurd c_4 (zdpos (hok.2.2.2.2.2.1 i hi).2.2.2.2.2.1.1)) (fun c_4 => ?_)
    refine lv_aload_n hx hb dX1_valueFor_40 rfl (lv_at hl 1 rfl) ?_
    refine va_get (D := D) (ci := 1) (v := .int (g 14 j)) (C := RX1) (T := TX1) (N := 5) hx hb hts iX1 hown hK hP (11 + n + j) (cws_P hj) rfl 2 (by decide) (hts (.fieldLink RX1 21 "CapitalReckoner$Piece" "days" "I") (by decide +kernel)) (fun _ h9 => h9) rfl dX1_valueFor_41 ?_
    refine lv_aload_n hx hb dX1_valueFor_44 rfl (lv_at hl 2 rfl) ?_
    refine va_getN (D := D) (ci := 0) (v := .int (g 8 i)) (C := RX0) (T := TX0) (N := 8) hx hb hts iX0 hown hK hP (11 + i) (cws_E hi) rfl 2 (by decide) (va_Nw.use rfl (hE.2 (.fieldLinkNest RX1 34 "CapitalReckoner$Exposure" "days" "I" RX3) (List.mem_of_getElem? (i := 21) rfl))) (fun _ h9 => h9) rfl dX1_valueFor_45 ?_
    refine lv_icmp_ge (tgt := 67) hx hb dX1_valueFor_48 (by decide) (fun c_5 => ?_) (fun c_5 => ?_)
    · refine lv_iload_n hx hb dX1_valueFor_67 rfl (lv_at hl 0 rfl) ?_
      exact W.iret (v := pct (g 11 j) (100 - (g 12 j))) hx hb hr (fun t ht hW => ⟨_, rfl, (by first | rfl | (simp only [vl, vl1, c_3, c_4, c_5]; done) | (simp only [vl, vl1, c_3, c_4, c_5]; rfl) | (simp [vl, vl1, c_3, c_4, c_5]; done)), ht⟩) (fun _ h => nomatch h) dX1_valueFor_68
    · refine lv_iload_n hx hb dX1_valueFor_51 rfl (lv_at hl 0 rfl) ?_
      refine lv_i2l hx hb dX1_valueFor_52 rfl ?_
      refine lv_aload_n hx hb dX1_valueFor_53 rfl (lv_at hl 1 rfl) ?_
      refine va_get (D := D) (ci := 1) (v := .int (g 14 j)) (C := RX1) (T := TX1) (N := 5) hx hb hts iX1 hown hK hP (11 + n + j) (cws_P hj) rfl 2 (by decide) (hts (.fieldLink RX1 21 "CapitalReckoner$Piece" "days" "I") (by decide +kernel)) (fun _ h9 => h9) rfl dX1_valueFor_54 ?_
      refine lv_i2l hx hb dX1_valueFor_57 rfl ?_
      refine lv_lmul hx hb dX1_valueFor_58 ?_
      refine lv_aload_n hx hb dX1_valueFor_59 rfl (lv_at hl 2 rfl) ?_
      refine va_getN (D := D) (ci := 0) (v := .int (g 8 i)) (C := RX0) (T := TX0) (N := 8) hx hb hts iX0 hown hK hP (11 + i) (cws_E hi) rfl 2 (by decide) (va_Nw.use rfl (hE.2 (.fieldLinkNest RX1 34 "CapitalReckoner$Exposure" "days" "I" RX3) (List.mem_of_getElem? (i := 21) rfl))) (fun _ h9 => h9) rfl dX1_valueFor_60 ?_
      refine lv_i2l hx hb dX1_valueFor_63 rfl ?_
      refine lv_ldiv hx hb dX1_valueFor_64 (zd64 (hok.2.2.2.2.2.1 i hi).2.2.2.2.2.1.1) ?_
      refine lv_l2i hx hb dX1_valueFor_65 rfl ?_
      refine lv_istore_n (lv' := [(2, .int (((((pct (g 11 j) (100 - (g 12 j))).toInt64) * ((g 14 j).toInt64)) / ((g 8 i).toInt64)).toInt32)), (0, .ref (ad (19 + j))), (1, .ref (ad (11 + i)))]) hx hb dX1_valueFor_66 rfl hl (by decide) rfl (fun ls hl => ?_)
      refine lv_iload_n hx hb dX1_valueFor_67 rfl (lv_at hl 0 rfl) ?_
      exact W.iret (v := ((((pct (g 11 j) (100 - (g 12 j))).toInt64) * ((g 14 j).toInt64)) / ((g 8 i).toInt64)).toInt32) hx hb hr (fun t ht hW => ⟨_, rfl, (by first | rfl | (simp only [vl, vl1, c_3, c_4, c_5]; done) | (simp only [vl, vl1, c_3, c_4, c_5]; rfl) | (simp [vl, vl1, c_3, c_4, c_5]; done)), ht⟩) (fun _ h => nomatch h) dX1_valueFor_68
  · refine lv_iload_n hx hb dX1_valueFor_26 rfl (lv_at hl 0 rfl) ?_
    refine lv_bipush (v := 92) hx hb dX1_valueFor_27 (by decide) ?_
    refine vp_callSi (va_Run.run (va_runSN (As := [.int (pct (g 11 j) (100 - (g 12 j))), .int 92]) (rest := []) ⟨hx, hb, hml, hown, hts⟩ (zX3_percentOf l D cI cL cE cP (cws cI cL cE cP ad g n k us wb tr pr le tk gf) (pct (g 11 j) (100 - (g 12 j))) 92) ⟨va_cnB 2 hts gX1_valueFor_X3_percentOf_n27 rfl rfl rfl (hE.2 (.methodLinkNest RX1 27 yX3_percentOf RX3) (List.mem_of_getElem? (i := 7) rfl)) (hts (.initialized RX3) (by decide +kernel)) (by decide +kernel) ⟨Nat.le_of_ble_eq_true rfl, Nat.le_of_ble_eq_true rfl⟩, (hts (.static yX3_percentOf) (by decide +kernel)), trivial⟩ ⟨zPr_blind, zPr_mk hE hP⟩ rfl rfl hl.1 rfl (lv_room (Nat.le_of_ble_eq_true rfl)) dX1_valueFor_29 ⟨Nat.le_of_ble_eq_true rfl, Nat.le_of_ble_eq_true rfl⟩)) (fun r_6 e_7 => ?_)
    obtain rfl := e_7
    refine lv_istore_n (lv' := [(2, .int (pct (pct (g 11 j) (100 - (g 12 j))) 92)), (0, .ref (ad (19 + j))), (1, .ref (ad (11 + i)))]) hx hb dX1_valueFor_32 rfl hl (by decide) rfl (fun ls hl => ?_)
    refine lv_aload_n hx hb dX1_valueFor_33 rfl (lv_at hl 2 rfl) ?_
    refine va_getN (D := D) (ci := 0) (v := .int (g 8 i)) (C := RX0) (T := TX0) (N := 8) hx hb hts iX0 hown hK hP (11 + i) (cws_E hi) rfl 2 (by decide) (va_Nw.use rfl (hE.2 (.fieldLinkNest RX1 34 "CapitalReckoner$Exposure" "days" "I" RX3) (List.mem_of_getElem? (i := 21) rfl))) (fun _ h9 => h9) rfl dX1_valueFor_34 ?_
    refine lv_if_le (tgt := 67) hx hb dX1_valueFor_37 (by decide) (fun c_8 => absurd c_8 (zdpos (hok.2.2.2.2.2.1 i hi).2.2.2.2.2.1.1)) (fun c_8 => ?_)
    refine lv_aload_n hx hb dX1_valueFor_40 rfl (lv_at hl 1 rfl) ?_
    refine va_get (D := D) (ci := 1) (v := .int (g 14 j)) (C := RX1) (T := TX1) (N := 5) hx hb hts iX1 hown hK hP (11 + n + j) (cws_P hj) rfl 2 (by decide) (hts (.fieldLink RX1 21 "CapitalReckoner$Piece" "days" "I") (by decide +kernel)) (fun _ h9 => h9) rfl dX1_valueFor_41 ?_
    refine lv_aload_n hx hb dX1_valueFor_44 rfl (lv_at hl 2 rfl) ?_
    refine va_getN (D := D) (ci := 0) (v := .int (g 8 i)) (C := RX0) (T := TX0) (N := 8) hx hb hts iX0 hown hK hP (11 + i) (cws_E hi) rfl 2 (by decide) (va_Nw.use rfl (hE.2 (.fieldLinkNest RX1 34 "CapitalReckoner$Exposure" "days" "I" RX3) (List.mem_of_getElem? (i := 21) rfl))) (fun _ h9 => h9) rfl dX1_valueFor_45 ?_
    refine lv_icmp_ge (tgt := 67) hx hb dX1_valueFor_48 (by decide) (fun c_9 => ?_) (fun c_9 => ?_)
    · refine lv_iload_n hx hb dX1_valueFor_67 rfl (lv_at hl 0 rfl) ?_
      exact W.iret (v := pct (pct (g 11 j) (100 - (g 12 j))) 92) hx hb hr (fun t ht hW => ⟨_, rfl, (by first | rfl | (simp only [vl, vl1, c_3, c_8, c_9]; done) | (simp only [vl, vl1, c_3, c_8, c_9]; rfl) | (simp [vl, vl1, c_3, c_8, c_9]; done)), ht⟩) (fun _ h => nomatch h) dX1_valueFor_68
    · refine lv_iload_n hx hb dX1_valueFor_51 rfl (lv_at hl 0 rfl) ?_
      refine lv_i2l hx hb dX1_valueFor_52 rfl ?_
      refine lv_aload_n hx hb dX1_valueFor_53 rfl (lv_at hl 1 rfl) ?_
      refine va_get (D := D) (ci := 1) (v := .int (g 14 j)) (C := RX1) (T := TX1) (N := 5) hx hb hts iX1 hown hK hP (11 + n + j) (cws_P hj) rfl 2 (by decide) (hts (.fieldLink RX1 21 "CapitalReckoner$Piece" "days" "I") (by decide +kernel)) (fun _ h9 => h9) rfl dX1_valueFor_54 ?_
      refine lv_i2l hx hb dX1_valueFor_57 rfl ?_
      refine lv_lmul hx hb dX1_valueFor_58 ?_
      refine lv_aload_n hx hb dX1_valueFor_59 rfl (lv_at hl 2 rfl) ?_
      refine va_getN (D := D) (ci := 0) (v := .int (g 8 i)) (C := RX0) (T := TX0) (N := 8) hx hb hts iX0 hown hK hP (11 + i) (cws_E hi) rfl 2 (by decide) (va_Nw.use rfl (hE.2 (.fieldLinkNest RX1 34 "CapitalReckoner$Exposure" "days" "I" RX3) (List.mem_of_getElem? (i := 21) rfl))) (fun _ h9 => h9) rfl dX1_valueFor_60 ?_
      refine lv_i2l hx hb dX1_valueFor_63 rfl ?_
      refine lv_ldiv hx hb dX1_valueFor_64 (zd64 (hok.2.2.2.2.2.1 i hi).2.2.2.2.2.1.1) ?_
      refine lv_l2i hx hb dX1_valueFor_65 rfl ?_
      refine lv_istore_n (lv' := [(2, .int (((((pct (pct (g 11 j) (100 - (g 12 j))) 92).toInt64) * ((g 14 j).toInt64)) / ((g 8 i).toInt64)).toInt32)), (0, .ref (ad (19 + j))), (1, .ref (ad (11 + i)))]) hx hb dX1_valueFor_66 rfl hl (by decide) rfl (fun ls hl => ?_)
      refine lv_iload_n hx hb dX1_valueFor_67 rfl (lv_at hl 0 rfl) ?_
      exact W.iret (v := ((((pct (pct (g 11 j) (100 - (g 12 j))) 92).toInt64) * ((g 14 j).toInt64)) / ((g 8 i).toInt64)).toInt32) hx hb hr (fun t ht hW => ⟨_, rfl, (by first | rfl | (simp only [vl, vl1, c_3, c_8, c_9]; done) | (simp only [vl, vl1, c_3, c_8, c_9]; rfl) | (simp [vl, vl1, c_3, c_8, c_9]; done)), ht⟩) (fun _ h => nomatch h) dX1_valueFor_68
end
section
/-! the search: what its methods answer and leave -/
def zfl {α : Type} (f g : Nat → α) (i : Nat) : Nat → α := fun j => if j < i then f j else g j
theorem zfl_0 {α : Type} (f g : Nat → α) : zfl f g 0 = g := by funext j; simp [zfl]
theorem zfl_u (f g : Nat → Int32) (i : Nat) : upd (zfl f g i) i (f i) = zfl f g (i + 1) := by
  funext j
  unfold upd zfl
  by_cases h : j = i
  · subst h; simp
  · rw [if_neg h]
    by_cases h2 : j < i
    · rw [if_pos h2, if_pos (by omega)]
    · rw [if_neg h2, if_neg (by omega)]
theorem zfl_uL (f g : Nat → Int64) (i : Nat) : vp_updL (zfl f g i) i (f i) = zfl f g (i + 1) := by
  funext j
  unfold vp_updL zfl
  by_cases h : j = i
  · subst h; simp
  · rw [if_neg h]
    by_cases h2 : j < i
    · rw [if_pos h2, if_pos (by omega)]
    · rw [if_neg h2, if_neg (by omega)]
theorem zmin_nI {n N : Nat} (h : n ≤ N) (hN : N < 2 ^ 31) : (if nI N < nI n then nI N else nI n) = nI n := by
  rw [if_neg (nI_nlt h hN)]
theorem zat_nI {N i : Nat} {f : Nat → Int32} (hi : i < N) (hN : N < 2 ^ 31) : zat N f (nI i) = f i := by
  unfold zat
  rw [if_neg (nI_pos (by omega)), if_neg (nI_ge hi hN), nI_clamp (by omega)]
theorem zatL_nI {N i : Nat} {f : Nat → Int64} (hi : i < N) (hN : N < 2 ^ 31) : zatL N f (nI i) = f i := by
  unfold zatL
  rw [if_neg (nI_pos (by omega)), if_neg (nI_ge hi hN), nI_clamp (by omega)]
theorem zput_nI {N i : Nat} {f : Nat → Int32} {x : Int32} (hi : i < N) (hN : N < 2 ^ 31) : zput N f (nI i) x = upd f i x := by
  unfold zput
  rw [if_neg (nI_pos (by omega)), if_neg (nI_ge hi hN), nI_clamp (by omega)]
theorem zlt_nI {a b : Nat} (h : a < b) (hb : b < 2 ^ 31) : nI a < nI b := nI_lt h hb
def dgL (set dg : Int32) : Nat → Int64
  | 0 => 0
  | p + 1 => if zhas set (nI p) = true then dgL set dg p + (dg.toInt64 <<< ((4 * (4 - nI p)).toInt64 &&& 63)) else dgL set dg p
def prF (wb : Nat → Int32) (e S : Int32) : Int64 := ((zat 256 wb (e * 32 + S)).toInt64 <<< (((20 : Int32)).toInt64 &&& 63)) + dgL S e 5
def loL (pr le : Nat → Int64) (S : Nat) (u : Int32) : Nat → Int64
  | 0 => zatL 32 pr 0 + zatL 32 le (nI S)
  | d + 1 => if (nI (d + 1) &&& nI S) &&& u = nI (d + 1) then (if zatL 32 pr (nI (d + 1)) + zatL 32 le (nI S - nI (d + 1)) < loL pr le S u d then zatL 32 pr (nI (d + 1)) + zatL 32 le (nI S - nI (d + 1)) else loL pr le S u d) else loL pr le S u d
def PRO (wb : Nat → Int32) (pr : Nat → Int64) : Nat → Nat → Int64
  | 0 => pr
  | e + 1 => zfl (fun j => prF wb (nI e) (nI j)) (PRO wb pr e) 32
def LEO (us wb : Nat → Int32) (pr le : Nat → Int64) : Nat → Nat → Int64
  | 0 => zfl (fun j => dgL (nI j) 8 5) le 32
  | e + 1 => fun S => if S < 32 then loL (PRO wb pr (e + 1)) (LEO us wb pr le e) S (zat 8 us (nI e)) S else LEO us wb pr le e S
/-- the row of the least keys while one exposure comes in, from the end -/
def zdn (f g : Nat → Int64) (t : Nat) : Nat → Int64 := fun S => if 32 ≤ S + t then f S else g S
def zd (t : Nat) : Int32 := 31 - nI t
theorem zd_0 : zd 0 = nI 32 - 1 := by decide +kernel
theorem zd_nI {t : Nat} (h : t < 32) : zd t = nI (31 - t) := by
  unfold zd
  have : (31 : Int32) = nI 31 := by decide +kernel
  rw [this, pk_sub (by omega)]
theorem zd_dec (t : Nat) : zd t + Int32.ofInt (-1) = zd (t + 1) := by
  unfold zd
  rw [← nI_1]
  have : Int32.ofInt (-1) = -1 := by decide +kernel
  rw [this]
  grind
theorem zd_neg : zd 32 < 0 := by decide +kernel
theorem zd_pos {t : Nat} (h : t < 32) : ¬ zd t < 0 := by rw [zd_nI h]; exact nI_pos (by omega)
theorem loL_congr {pr le le' : Nat → Int64} {S : Nat} {u : Int32} (hS : S < 32) (h : ∀ j, j ≤ S → le j = le' j) : ∀ d, d ≤ S → loL pr le S u d = loL pr le' S u d
  | 0, _ => by unfold loL; rw [zatL_nI hS (by decide), zatL_nI hS (by decide), h S (Nat.le_refl _)]
  | d + 1, hd => by
    unfold loL
    rw [loL_congr hS h d (by omega), pk_sub hd, zatL_nI (f := le) (by omega) (by decide), zatL_nI (f := le') (by omega) (by decide), h _ (by omega)]
theorem zdn_0 (f g : Nat → Int64) (h : ∀ S, 32 ≤ S → f S = g S) : zdn f g 0 = g := by
  funext S; unfold zdn; by_cases hs : 32 ≤ S + 0
  · rw [if_pos hs, h S hs]
  · rw [if_neg hs]
theorem zdn_32 (f g : Nat → Int64) : zdn f g 32 = f := by
  funext S; unfold zdn; rw [if_pos (by omega)]
theorem zdn_u (f g : Nat → Int64) {t : Nat} (ht : t < 32) {x : Int64} (hx : x = f (31 - t)) : vp_updL (zdn f g t) (31 - t) x = zdn f g (t + 1) := by
  funext S; unfold vp_updL zdn
  by_cases h : S = 31 - t
  · subst h; rw [if_pos rfl, if_pos (by omega), hx]
  · rw [if_neg h]
    by_cases h2 : 32 ≤ S + t
    · rw [if_pos h2, if_pos (by omega)]
    · rw [if_neg h2, if_neg (by omega)]
theorem LEO_step {us wb : Nat → Int32} {pr le : Nat → Int64} {e t : Nat} (ht : t < 32) : loL (PRO wb pr (e + 1)) (zdn (LEO us wb pr le (e + 1)) (LEO us wb pr le e) t) (31 - t) (zat 8 us (nI e)) (31 - t) = LEO us wb pr le (e + 1) (31 - t) := by
  rw [loL_congr (le' := LEO us wb pr le e) (by omega) (fun j hj => by unfold zdn; rw [if_neg (by omega)]) _ (Nat.le_refl _)]
  conv => rhs; unfold LEO
  rw [if_pos (by omega)]
def bkE (le : Nat → Int64) (k : Nat) : Int64 := zatL 32 le (((1 : Int32) <<< (nI k &&& 31)) - 1)
def bwE (le : Nat → Int64) (k : Nat) : Int32 := (bkE le k >>> (((20 : Int32)).toInt64 &&& 63)).toInt32
def woE (le : Nat → Int64) (k : Nat) (p : Int32) : Int32 := (zatL 32 le ((((1 : Int32) <<< (nI k &&& 31)) - 1) &&& (((1 : Int32) <<< (p &&& 31)) ^^^ (-1))) >>> (((20 : Int32)).toInt64 &&& 63)).toInt32
def tkE (le : Nat → Int64) (k : Nat) (p : Int32) : Int32 := if (bkE le k >>> ((4 * (4 - p)).toInt64 &&& 63)).toInt32 &&& 15 = 8 then -1 else (bkE le k >>> ((4 * (4 - p)).toInt64 &&& 63)).toInt32 &&& 15
def gsL (le : Nat → Int64) (k : Nat) (e : Int32) : Nat → Int32
  | 0 => 0
  | p + 1 => if tkE le k (nI p) = e then gsL le k e p ||| ((1 : Int32) <<< (nI p &&& 31)) else gsL le k e p
def trL (tr : Nat → Int32) : Nat → Nat → Int32
  | 0 => tr
  | e + 1 => zput 8 (trL tr e) (nI e) 0
def twL (wb : Nat → Int32) : Nat → Int32
  | 0 => 0
  | e + 1 => twL wb e + zat 256 wb (nI e * (32 : Int32) + 0)
/-- the least over the exposures that come in, from a first answer -/
def zfm (c : Nat → Bool) (f : Nat → Int32) (b : Int32) : Nat → Int32
  | 0 => b
  | e + 1 => if c e = true then (if f e < zfm c f b e then f e else zfm c f b e) else zfm c f b e
def tfF (us wb : Nat → Int32) (n : Nat) : Nat → Nat → (Nat → Int32) → Int32 → Int32
  | 0, _, _, s => s
  | d + 1, p, tr, s => zfm (fun e => zhas (zat 8 us (nI e)) (nI p)) (fun e => tfF us wb n d (p + 1) (zput 8 tr (nI e) (zat 8 tr (nI e) ||| ((1 : Int32) <<< (nI p &&& 31)))) (s + (zat 256 wb (nI e * (32 : Int32) + (zat 8 tr (nI e) ||| ((1 : Int32) <<< (nI p &&& 31)))) - zat 256 wb (nI e * (32 : Int32) + zat 8 tr (nI e))))) (tfF us wb n d (p + 1) tr s) n
theorem zput_back {N e : Nat} {f : Nat → Int32} {x : Int32} (he : e < N) (hN : N < 2 ^ 31) : zput N (zput N f (nI e) x) (nI e) (zat N f (nI e)) = f := by
  rw [zput_nI he hN, zput_nI he hN, zat_nI he hN]
  funext j; unfold upd; by_cases h : j = e
  · subst h; simp
  · simp [h]

set_option maxHeartbeats 4000000 in
set_option maxRecDepth 100000 in
theorem zX2_begin (l : Launch) (D : va_G) (cI cL cE cP : ClassId) (ad : Nat → Nat) (g : Nat → Nat → Int32) (n k : Nat) (us wb tr : Nat → Int32) (pr le : Nat → Int64) (tk gf : Int32) (hok : zOk g n k) (sz : Nat) : Met l yX2_begin wsX2_begin ({ frames := 1, cells := 0, slots := 0, locals := 24 }) (zPw D cI cL cE cP (cws cI cL cE cP ad g n k us wb tr pr le tk gf) sz [.ref (ad 5), .int (nI n), .int (nI k)]) (zQv D (cws cI cL cE cP ad g n k us wb tr pr le tk gf) sz (cws cI cL cE cP ad g n k us wb tr pr le (nI n) (nI k))) 0 0 (va_A (cws cI cL cE cP ad g n k us wb tr pr le tk gf) sz) := by
  refine Met.ofW (cc := cX2_begin) (maxL := 3) (ret := none) (by decide) rfl ?_
  intro p e s m args below meth c s₁ B hml hv
  obtain ⟨rfl, hsz, hE, hP, hD0⟩ := hv
  subst hsz
  obtain ⟨A, hAe⟩ : ∃ A, A = va_A (cws cI cL cE cP ad g n k us wb tr pr le tk gf) s.heap.size := ⟨_, rfl⟩
  have hD : va_D A (cws cI cL cE cP ad g n k us wb tr pr le tk gf) := by rw [hAe]; exact hD0.self
  have hA : ∀ q : Nat, s.heap.size ≤ q → A q := fun q h => by rw [hAe]; exact Or.inr h
  have hS : va_S A s.heap s.heap [] := va_S.rf
  have hx := B.exec
  have hb := B.bytes
  have hr := B.returns
  have hts := atoms_spec (ws := wsX2_begin) B.pre
  have hown : s.vm.findClass RX2 = some m.cls := findClass_of_methodNamed B.named
  have hlocks := B.notSynchronized
  have hK := hE.1
  have iX2 : ∀ w ∈ wsX20, w ∈ wsX2_begin := by decide +kernel
  have hl := lv_entry ([.ref (ad 5), .int (nI n), .int (nI k)]) (n := 3) (Nat.le_of_ble_eq_true rfl)
  rw [lg_entry_eq]
  generalize (lg_sl ([.ref (ad 5), .int (nI n), .int (nI k)]) ++ List.replicate (3 - (lg_sl ([.ref (ad 5), .int (nI n), .int (nI k)])).length) Slot.unset).toArray = ls at hl ⊢
  have hl : lv_has ls 3 [(0, .ref (ad 5)), (1, .int (nI n)), (2, .int (nI k))] := hl
  refine lv_aload_n hx hb dX2_begin_0 rfl (lv_at hl 0 rfl) ?_
  refine lv_iload_n hx hb dX2_begin_1 rfl (lv_at hl 1 rfl) ?_
  refine lv_bipush (v := 8) hx hb dX2_begin_2 (by decide) ?_
  refine va_mmin hx hb (hml.trans hl.1.symm) hown (hts (.methodLink RX2 28 Lib.Math.min.name) (by decide +kernel)) (hts (.static Lib.Math.min.name) (by decide +kernel)) (hts (.initialized "java/lang/Math") (by decide +kernel)) (hts (.code Lib.Math.min.name Lib.Math.min.code 2 (some .int)) (by decide +kernel)) (Nat.le_of_ble_eq_true rfl) (Nat.le_of_ble_eq_true rfl) (Nat.zero_le _) (Nat.zero_le _) dX2_begin_4 ?_
  refine va_put (D := D) (ci := 2) (v := .int (if 8 < nI n then 8 else nI n)) (ty := .int) (C := RX2) (T := TX2) (N := 7) hx hb hts iX2 tyX2 tyX2_ok nmX2 hown hK hP hD hS 5 cws_5 rfl 5 (by decide) (hts (.fieldLink RX2 34 "CapitalReckoner$Search" "takers" "I") (by decide +kernel)) (fun _ h9 => h9) rfl (by decide +kernel) rfl rfl (Nat.le_of_ble_eq_true rfl) dX2_begin_7 (fun H locs hP hD hS => ?_)
  have hP : va_P D vwCl (cws cI cL cE cP ad g n k us wb tr pr le (if 8 < nI n then 8 else nI n) gf) H := zP_re hP (cws_s5a).symm
  have hD : va_D A (cws cI cL cE cP ad g n k us wb tr pr le (if 8 < nI n then 8 else nI n) gf) := zD_re hD (cws_s5a).symm
  refine lv_aload_n hx hb dX2_begin_10 rfl (lv_at hl 0 rfl) ?_
  refine lv_iload_n hx hb dX2_begin_11 rfl (lv_at hl 2 rfl) ?_
  refine lv_iconst (v := 5) hx hb dX2_begin_12 (by decide) ?_
  refine va_mmin hx hb (hml.trans hl.1.symm) hown (hts (.methodLink RX2 28 Lib.Math.min.name) (by decide +kernel)) (hts (.static Lib.Math.min.name) (by decide +kernel)) (hts (.initialized "java/lang/Math") (by decide +kernel)) (hts (.code Lib.Math.min.name Lib.Math.min.code 2 (some .int)) (by decide +kernel)) (Nat.le_of_ble_eq_true rfl) (Nat.le_of_ble_eq_true rfl) (Nat.zero_le _) (Nat.zero_le _) dX2_begin_13 ?_
  refine va_put (D := D) (ci := 2) (v := .int (if 5 < nI k then 5 else nI k)) (ty := .int) (C := RX2) (T := TX2) (N := 7) hx hb hts iX2 tyX2 tyX2_ok nmX2 hown hK hP hD hS 5 cws_5 rfl 6 (by decide) (hts (.fieldLink RX2 38 "CapitalReckoner$Search" "gifts" "I") (by decide +kernel)) (fun _ h9 => h9) rfl (by decide +kernel) rfl rfl (Nat.le_of_ble_eq_true rfl) dX2_begin_16 (fun H locs hP hD hS => ?_)
  have hP : va_P D vwCl (cws cI cL cE cP ad g n k us wb tr pr le (if 8 < nI n then 8 else nI n) (if 5 < nI k then 5 else nI k)) H := zP_re hP (cws_s5b).symm
  have hD : va_D A (cws cI cL cE cP ad g n k us wb tr pr le (if 8 < nI n then 8 else nI n) (if 5 < nI k then 5 else nI k)) := zD_re hD (cws_s5b).symm
  exact zvret hx hb hr hAe (zP_re hP (by rw [show (if (8 : Int32) < nI n then 8 else nI n) = nI n from zmin_nI (N := 8) hok.n (by decide), show (if (5 : Int32) < nI k then 5 else nI k) = nI k from zmin_nI (N := 5) hok.k (by decide)])) (zD_re hD (by rw [show (if (8 : Int32) < nI n then 8 else nI n) = nI n from zmin_nI (N := 8) hok.n (by decide), show (if (5 : Int32) < nI k then 5 else nI k) = nI k from zmin_nI (N := 5) hok.k (by decide)])) hS dX2_begin_19
set_option maxHeartbeats 4000000 in
set_option maxRecDepth 100000 in
theorem zX2_setUsable (l : Launch) (D : va_G) (cI cL cE cP : ClassId) (ad : Nat → Nat) (g : Nat → Nat → Int32) (n k : Nat) (us wb tr : Nat → Int32) (pr le : Nat → Int64) (tk gf : Int32) (hok : zOk g n k) (e0 v0 : Int32) (sz : Nat) : Met l yX2_setUsable wsX2_setUsable ({ frames := 1, cells := 0, slots := 0, locals := 22 }) (zPw D cI cL cE cP (cws cI cL cE cP ad g n k us wb tr pr le tk gf) sz [.ref (ad 5), .int e0, .int v0]) (zQv D (cws cI cL cE cP ad g n k us wb tr pr le tk gf) sz (cws cI cL cE cP ad g n k (zput 8 us e0 v0) wb tr pr le tk gf)) 0 0 (va_A (cws cI cL cE cP ad g n k us wb tr pr le tk gf) sz) := by
  refine Met.ofW (cc := cX2_setUsable) (maxL := 3) (ret := none) (by decide) rfl ?_
  intro p e s m args below meth c s₁ B hml hv
  obtain ⟨rfl, hsz, hE, hP, hD0⟩ := hv
  subst hsz
  obtain ⟨A, hAe⟩ : ∃ A, A = va_A (cws cI cL cE cP ad g n k us wb tr pr le tk gf) s.heap.size := ⟨_, rfl⟩
  have hD : va_D A (cws cI cL cE cP ad g n k us wb tr pr le tk gf) := by rw [hAe]; exact hD0.self
  have hA : ∀ q : Nat, s.heap.size ≤ q → A q := fun q h => by rw [hAe]; exact Or.inr h
  have hS : va_S A s.heap s.heap [] := va_S.rf
  have hx := B.exec
  have hb := B.bytes
  have hr := B.returns
  have hts := atoms_spec (ws := wsX2_setUsable) B.pre
  have hown : s.vm.findClass RX2 = some m.cls := findClass_of_methodNamed B.named
  have hlocks := B.notSynchronized
  have hK := hE.1
  have iX2 : ∀ w ∈ wsX20, w ∈ wsX2_setUsable := by decide +kernel
  have hl := lv_entry ([.ref (ad 5), .int e0, .int v0]) (n := 3) (Nat.le_of_ble_eq_true rfl)
  rw [lg_entry_eq]
  generalize (lg_sl ([.ref (ad 5), .int e0, .int v0]) ++ List.replicate (3 - (lg_sl ([.ref (ad 5), .int e0, .int v0])).length) Slot.unset).toArray = ls at hl ⊢
  have hl : lv_has ls 3 [(0, .ref (ad 5)), (1, .int e0), (2, .int v0)] := hl
  refine lv_aload_n hx hb dX2_setUsable_0 rfl (lv_at hl 0 rfl) ?_
  refine va_get (D := D) (ci := 2) (v := .ref (ad 6)) (C := RX2) (T := TX2) (N := 7) hx hb hts iX2 hown hK hP 5 cws_5 rfl 0 (by decide) (hts (.fieldLink RX2 11 "CapitalReckoner$Search" "usable" "[I") (by decide +kernel)) (fun _ h9 => h9) rfl dX2_setUsable_1 ?_
  refine lv_iload_n hx hb dX2_setUsable_4 rfl (lv_at hl 1 rfl) ?_
  refine lv_iload_n hx hb dX2_setUsable_5 rfl (lv_at hl 2 rfl) ?_
  refine zcallv (va_runSN (As := [.ref (ad 6), .int e0, .int v0]) (rest := []) ⟨hx, hb, hml, hown, hts⟩ (zX3_put l D cI cL cE cP (cws cI cL cE cP ad g n k us wb tr pr le tk gf) 6 (ad 6) 8 (us) (by decide) cws_6 (e0) (v0) s.heap.size) ⟨va_cnB 3 hts gX2_setUsable_X3_put_n41 rfl rfl rfl (hE.2 (.methodLinkNest RX2 41 yX3_put RX3) (List.mem_of_getElem? (i := 3) rfl)) (hts (.initialized RX3) (by decide +kernel)) (by decide +kernel) ⟨Nat.le_of_ble_eq_true rfl, Nat.le_of_ble_eq_true rfl⟩, (hts (.static yX3_put) (by decide +kernel)), trivial⟩ ⟨zPw_blind, zPw_mk hE hP hD⟩ rfl rfl hl.1 rfl (lv_room (Nat.le_of_ble_eq_true rfl)) dX2_setUsable_6 ⟨Nat.le_of_ble_eq_true rfl, Nat.le_of_ble_eq_true rfl⟩) hD hS hA (fun H locs hP hD hS => ?_)
  have hP : va_P D vwCl (cws cI cL cE cP ad g n k (zput 8 us e0 v0) wb tr pr le tk gf) H := zP_re hP (cws_s6).symm
  have hD : va_D A (cws cI cL cE cP ad g n k (zput 8 us e0 v0) wb tr pr le tk gf) := zD_re hD (cws_s6).symm
  exact zvret hx hb hr hAe (zP_re hP (rfl)) (zD_re hD (rfl)) hS dX2_setUsable_9
set_option maxHeartbeats 4000000 in
set_option maxRecDepth 100000 in
theorem zX2_setWeighted (l : Launch) (D : va_G) (cI cL cE cP : ClassId) (ad : Nat → Nat) (g : Nat → Nat → Int32) (n k : Nat) (us wb tr : Nat → Int32) (pr le : Nat → Int64) (tk gf : Int32) (hok : zOk g n k) (e0 s0 v0 : Int32) (sz : Nat) : Met l yX2_setWeighted wsX2_setWeighted ({ frames := 1, cells := 0, slots := 0, locals := 22 }) (zPw D cI cL cE cP (cws cI cL cE cP ad g n k us wb tr pr le tk gf) sz [.ref (ad 5), .int e0, .int s0, .int v0]) (zQv D (cws cI cL cE cP ad g n k us wb tr pr le tk gf) sz (cws cI cL cE cP ad g n k us (zput 256 wb ((e0 * 32) + s0) v0) tr pr le tk gf)) 0 0 (va_A (cws cI cL cE cP ad g n k us wb tr pr le tk gf) sz) := by
  refine Met.ofW (cc := cX2_setWeighted) (maxL := 4) (ret := none) (by decide) rfl ?_
  intro p e s m args below meth c s₁ B hml hv
  obtain ⟨rfl, hsz, hE, hP, hD0⟩ := hv
  subst hsz
  obtain ⟨A, hAe⟩ : ∃ A, A = va_A (cws cI cL cE cP ad g n k us wb tr pr le tk gf) s.heap.size := ⟨_, rfl⟩
  have hD : va_D A (cws cI cL cE cP ad g n k us wb tr pr le tk gf) := by rw [hAe]; exact hD0.self
  have hA : ∀ q : Nat, s.heap.size ≤ q → A q := fun q h => by rw [hAe]; exact Or.inr h
  have hS : va_S A s.heap s.heap [] := va_S.rf
  have hx := B.exec
  have hb := B.bytes
  have hr := B.returns
  have hts := atoms_spec (ws := wsX2_setWeighted) B.pre
  have hown : s.vm.findClass RX2 = some m.cls := findClass_of_methodNamed B.named
  have hlocks := B.notSynchronized
  have hK := hE.1
  have iX2 : ∀ w ∈ wsX20, w ∈ wsX2_setWeighted := by decide +kernel
  have hl := lv_entry ([.ref (ad 5), .int e0, .int s0, .int v0]) (n := 4) (Nat.le_of_ble_eq_true rfl)
  rw [lg_entry_eq]
  generalize (lg_sl ([.ref (ad 5), .int e0, .int s0, .int v0]) ++ List.replicate (4 - (lg_sl ([.ref (ad 5), .int e0, .int s0, .int v0])).length) Slot.unset).toArray = ls at hl ⊢
  have hl : lv_has ls 4 [(0, .ref (ad 5)), (1, .int e0), (2, .int s0), (3, .int v0)] := hl
  refine lv_aload_n hx hb dX2_setWeighted_0 rfl (lv_at hl 0 rfl) ?_
  refine va_get (D := D) (ci := 2) (v := .ref (ad 7)) (C := RX2) (T := TX2) (N := 7) hx hb hts iX2 hown hK hP 5 cws_5 rfl 1 (by decide) (hts (.fieldLink RX2 15 "CapitalReckoner$Search" "weightedBySet" "[I") (by decide +kernel)) (fun _ h9 => h9) rfl dX2_setWeighted_1 ?_
  refine lv_iload_n hx hb dX2_setWeighted_4 rfl (lv_at hl 1 rfl) ?_
  refine lv_bipush (v := 32) hx hb dX2_setWeighted_5 (by decide) ?_
  refine lv_imul hx hb dX2_setWeighted_7 ?_
  refine lv_iload_n hx hb dX2_setWeighted_8 rfl (lv_at hl 2 rfl) ?_
  refine lv_iadd hx hb dX2_setWeighted_9 ?_
  refine lv_iload_n hx hb dX2_setWeighted_10 rfl (lv_at hl 3 rfl) ?_
  refine zcallv (va_runSN (As := [.ref (ad 7), .int ((e0 * 32) + s0), .int v0]) (rest := []) ⟨hx, hb, hml, hown, hts⟩ (zX3_put l D cI cL cE cP (cws cI cL cE cP ad g n k us wb tr pr le tk gf) 7 (ad 7) 256 (wb) (by decide) cws_7 ((e0 * 32) + s0) (v0) s.heap.size) ⟨va_cnB 3 hts gX2_setWeighted_X3_put_n41 rfl rfl rfl (hE.2 (.methodLinkNest RX2 41 yX3_put RX3) (List.mem_of_getElem? (i := 3) rfl)) (hts (.initialized RX3) (by decide +kernel)) (by decide +kernel) ⟨Nat.le_of_ble_eq_true rfl, Nat.le_of_ble_eq_true rfl⟩, (hts (.static yX3_put) (by decide +kernel)), trivial⟩ ⟨zPw_blind, zPw_mk hE hP hD⟩ rfl rfl hl.1 rfl (lv_room (Nat.le_of_ble_eq_true rfl)) dX2_setWeighted_11 ⟨Nat.le_of_ble_eq_true rfl, Nat.le_of_ble_eq_true rfl⟩) hD hS hA (fun H locs hP hD hS => ?_)
  have hP : va_P D vwCl (cws cI cL cE cP ad g n k us (zput 256 wb ((e0 * 32) + s0) v0) tr pr le tk gf) H := zP_re hP (cws_s7).symm
  have hD : va_D A (cws cI cL cE cP ad g n k us (zput 256 wb ((e0 * 32) + s0) v0) tr pr le tk gf) := zD_re hD (cws_s7).symm
  exact zvret hx hb hr hAe (zP_re hP (rfl)) (zD_re hD (rfl)) hS dX2_setWeighted_14
set_option maxHeartbeats 4000000 in
set_option maxRecDepth 100000 in
theorem zX2_weightedWith (l : Launch) (D : va_G) (cI cL cE cP : ClassId) (ad : Nat → Nat) (g : Nat → Nat → Int32) (n k : Nat) (us wb tr : Nat → Int32) (pr le : Nat → Int64) (tk gf : Int32) (hok : zOk g n k) (e0 s0 : Int32) : Met l yX2_weightedWith wsX2_weightedWith ({ frames := 1, cells := 0, slots := 0, locals := 21 }) (zPr D cI cL cE cP (cws cI cL cE cP ad g n k us wb tr pr le tk gf) [.ref (ad 5), .int e0, .int s0]) (vp_Si (fun r : Int32 => r = zat 256 wb (e0 * 32 + s0))) 0 0 (fun _ => False) := by
  refine Met.ofW (cc := cX2_weightedWith) (maxL := 3) (ret := (some .int)) (by decide) rfl ?_
  intro p e s m args below meth c s₁ B hml hv
  obtain ⟨rfl, hE, hP⟩ := hv
  have hx := B.exec
  have hb := B.bytes
  have hr := B.returns
  have hts := atoms_spec (ws := wsX2_weightedWith) B.pre
  have hown : s.vm.findClass RX2 = some m.cls := findClass_of_methodNamed B.named
  have hlocks := B.notSynchronized
  have hK := hE.1
  have iX2 : ∀ w ∈ wsX20, w ∈ wsX2_weightedWith := by decide +kernel
  have hl := lv_entry ([.ref (ad 5), .int e0, .int s0]) (n := 3) (Nat.le_of_ble_eq_true rfl)
  rw [lg_entry_eq]
  generalize (lg_sl ([.ref (ad 5), .int e0, .int s0]) ++ List.replicate (3 - (lg_sl ([.ref (ad 5), .int e0, .int s0])).length) Slot.unset).toArray = ls at hl ⊢
  have hl : lv_has ls 3 [(0, .ref (ad 5)), (1, .int e0), (2, .int s0)] := hl
  refine lv_aload_n hx hb dX2_weightedWith_0 rfl (lv_at hl 0 rfl) ?_
  refine va_get (D := D) (ci := 2) (v := .ref (ad 7)) (C := RX2) (T := TX2) (N := 7) hx hb hts iX2 hown hK hP 5 cws_5 rfl 1 (by decide) (hts (.fieldLink RX2 15 "CapitalReckoner$Search" "weightedBySet" "[I") (by decide +kernel)) (fun _ h9 => h9) rfl dX2_weightedWith_1 ?_
  refine lv_iload_n hx hb dX2_weightedWith_4 rfl (lv_at hl 1 rfl) ?_
  refine lv_bipush (v := 32) hx hb dX2_weightedWith_5 (by decide) ?_
  refine lv_imul hx hb dX2_weightedWith_7 ?_
  refine lv_iload_n hx hb dX2_weightedWith_8 rfl (lv_at hl 2 rfl) ?_
  refine lv_iadd hx hb dX2_weightedWith_9 ?_
  refine vp_callSi (va_Run.run (va_runSN (As := [.ref (ad 7), .int ((e0 * 32) + s0)]) (rest := []) ⟨hx, hb, hml, hown, hts⟩ (zX3_at l D cI cL cE cP (cws cI cL cE cP ad g n k us wb tr pr le tk gf) 7 (ad 7) 256 (wb) (by decide) cws_7 ((e0 * 32) + s0)) ⟨va_cnB 2 hts gX2_weightedWith_X3_at_n45 rfl rfl rfl (hE.2 (.methodLinkNest RX2 45 yX3_at RX3) (List.mem_of_getElem? (i := 11) rfl)) (hts (.initialized RX3) (by decide +kernel)) (by decide +kernel) ⟨Nat.le_of_ble_eq_true rfl, Nat.le_of_ble_eq_true rfl⟩, (hts (.static yX3_at) (by decide +kernel)), trivial⟩ ⟨zPr_blind, zPr_mk hE hP⟩ rfl rfl hl.1 rfl (lv_room (Nat.le_of_ble_eq_true rfl)) dX2_weightedWith_10 ⟨Nat.le_of_ble_eq_true rfl, Nat.le_of_ble_eq_true rfl⟩)) (fun r_1 e_2 => ?_)
  obtain rfl := e_2
  exact W.iret (v := zat 256 wb ((e0 * 32) + s0)) hx hb hr (fun t ht hW => ⟨_, rfl, (by first | rfl | (simp only []; done) | (simp only []; rfl) | (simp []; done)), ht⟩) (fun _ h => nomatch h) dX2_weightedWith_13
set_option maxHeartbeats 4000000 in
set_option maxRecDepth 100000 in
theorem zX2_digitShift (l : Launch) (D : va_G) (cI cL cE cP : ClassId) (ws : va_W) (p0 : Int32) : Met l yX2_digitShift wsX2_digitShift ({ frames := 0, cells := 0, slots := 0, locals := 0 }) (zPr D cI cL cE cP (ws) [.int p0]) (vp_Si (fun r : Int32 => r = 4 * (4 - p0))) 0 0 (fun _ => False) := by
  refine Met.ofW (cc := cX2_digitShift) (maxL := 1) (ret := (some .int)) (by decide) rfl ?_
  intro p e s m args below meth c s₁ B hml hv
  obtain ⟨rfl, hE, hP⟩ := hv
  have hx := B.exec
  have hb := B.bytes
  have hr := B.returns
  have hts := atoms_spec (ws := wsX2_digitShift) B.pre
  have hown : s.vm.findClass RX2 = some m.cls := findClass_of_methodNamed B.named
  have hlocks := B.notSynchronized
  have hK := hE.1
  have hl := lv_entry ([.int p0]) (n := 1) (Nat.le_of_ble_eq_true rfl)
  rw [lg_entry_eq]
  generalize (lg_sl ([.int p0]) ++ List.replicate (1 - (lg_sl ([.int p0])).length) Slot.unset).toArray = ls at hl ⊢
  have hl : lv_has ls 1 [(0, .int p0)] := hl
  refine lv_iconst (v := 4) hx hb dX2_digitShift_0 (by decide) ?_
  refine lv_iconst (v := 4) hx hb dX2_digitShift_1 (by decide) ?_
  refine lv_iload_n hx hb dX2_digitShift_2 rfl (lv_at hl 0 rfl) ?_
  refine lv_isub hx hb dX2_digitShift_3 ?_
  refine lv_imul hx hb dX2_digitShift_4 ?_
  exact W.iret (v := 4 * (4 - p0)) hx hb hr (fun t ht hW => ⟨_, rfl, (by first | rfl | (simp only []; done) | (simp only []; rfl) | (simp []; done)), ht⟩) (fun _ h => nomatch h) dX2_digitShift_5
set_option maxHeartbeats 4000000 in
set_option maxRecDepth 100000 in
theorem zX2_digitsOf (l : Launch) (D : va_G) (cI cL cE cP : ClassId) (ws : va_W) (a0 b0 : Int32) : Met l yX2_digitsOf wsX2_digitsOf ({ frames := 1, cells := 0, slots := 0, locals := 21 }) (zPr D cI cL cE cP (ws) [.int a0, .int b0]) (vp_Sl (fun r : Int64 => r = dgL a0 b0 5)) 0 0 (fun _ => False) := by
  refine Met.ofW (cc := cX2_digitsOf) (maxL := 5) (ret := (some .long)) (by decide) rfl ?_
  intro p e s m args below meth c s₁ B hml hv
  obtain ⟨rfl, hE, hP⟩ := hv
  have hx := B.exec
  have hb := B.bytes
  have hr := B.returns
  have hts := atoms_spec (ws := wsX2_digitsOf) B.pre
  have hown : s.vm.findClass RX2 = some m.cls := findClass_of_methodNamed B.named
  have hlocks := B.notSynchronized
  have hK := hE.1
  have hl := lv_entry ([.int a0, .int b0]) (n := 5) (Nat.le_of_ble_eq_true rfl)
  rw [lg_entry_eq]
  generalize (lg_sl ([.int a0, .int b0]) ++ List.replicate (5 - (lg_sl ([.int a0, .int b0])).length) Slot.unset).toArray = ls at hl ⊢
  have hl : lv_has ls 5 [(0, .int a0), (1, .int b0)] := hl
  refine lv_lconst (v := 0) hx hb dX2_digitsOf_0 (by decide) ?_
  refine lv_lstore_n (lv' := [(2, .long 0), (0, .int a0), (1, .int b0)]) hx hb dX2_digitsOf_1 rfl hl (by decide) rfl (fun ls hl => ?_)
  refine lv_iconst (v := 0) hx hb dX2_digitsOf_2 (by decide) ?_
  refine lv_istore (lv' := [(4, .int 0), (2, .long 0), (0, .int a0), (1, .int b0)]) hx hb dX2_digitsOf_3 hl (by decide) rfl (fun ls hl => ?_)
  refine zloop (nL := 5) (lv := fun i => [(0, .int a0), (1, .int b0), (2, .long (dgL a0 b0 (i))), (4, .int (nI (i)))]) (n := 5) (lv_re (lv_sub hl [2, 3, 1, 0] rfl) (by first | rfl | (simp only [dgL, nI_0]; done) | (simp only [dgL, nI_0]; rfl) | (simp [dgL, nI_0]; done))) (fun ls hl => ?_) (fun i hi ih_5 ls hl => ?_)
  · have hl : lv_has ls 5 [(0, .int a0), (1, .int b0), (2, .long (dgL a0 b0 (5))), (4, .int (nI (5)))] := hl
    refine lv_iload hx hb dX2_digitsOf_5 (lv_at hl 3 rfl) ?_
    refine lv_iconst (v := 5) hx hb dX2_digitsOf_7 (by decide) ?_
    refine lv_icmp_ge (tgt := 37) hx hb dX2_digitsOf_8 (by decide) (fun c_1 => ?_) (fun c_1 => absurd (zle_refl (nI 5)) c_1)
    refine lv_lload_n hx hb dX2_digitsOf_37 rfl (lv_at hl 2 rfl) ?_
    exact W.lret (v := dgL a0 b0 (5)) hx hb hr (fun t ht hW => ⟨_, rfl, (by first | rfl | (simp only [dgL, c_1]; done) | (simp only [dgL, c_1]; rfl) | (simp [dgL, c_1]; done)), ht⟩) (fun _ h => nomatch h) dX2_digitsOf_38
  · have hl : lv_has ls 5 [(0, .int a0), (1, .int b0), (2, .long (dgL a0 b0 (i))), (4, .int (nI (i)))] := hl
    refine lv_iload hx hb dX2_digitsOf_5 (lv_at hl 3 rfl) ?_
    refine lv_iconst (v := 5) hx hb dX2_digitsOf_7 (by decide) ?_
    refine lv_icmp_ge (tgt := 37) hx hb dX2_digitsOf_8 (by decide) (fun c_2 => absurd c_2 (nI_ge hi (by decide))) (fun c_2 => ?_)
    refine lv_iload_n hx hb dX2_digitsOf_11 rfl (lv_at hl 0 rfl) ?_
    refine lv_iload hx hb dX2_digitsOf_12 (lv_at hl 3 rfl) ?_
    refine vp_callSi (va_Run.run (va_runSN (As := [.int a0, .int (nI (i))]) (rest := []) ⟨hx, hb, hml, hown, hts⟩ (zX3_has l D cI cL cE cP (ws) a0 (nI (i))) ⟨va_cnB 2 hts gX2_digitsOf_X3_has_n49 rfl rfl rfl (hE.2 (.methodLinkNest RX2 49 yX3_has RX3) (List.mem_of_getElem? (i := 10) rfl)) (hts (.initialized RX3) (by decide +kernel)) (by decide +kernel) ⟨Nat.le_of_ble_eq_true rfl, Nat.le_of_ble_eq_true rfl⟩, (hts (.static yX3_has) (by decide +kernel)), trivial⟩ ⟨zPr_blind, zPr_mk hE hP⟩ rfl rfl hl.1 rfl (lv_room (Nat.le_of_ble_eq_true rfl)) dX2_digitsOf_14 ⟨Nat.le_of_ble_eq_true rfl, Nat.le_of_ble_eq_true rfl⟩)) (fun r_3 e_4 => ?_)
    obtain rfl := e_4
    refine lv_if_eq (tgt := 31) hx hb dX2_digitsOf_17 (by decide) (fun c_5 => ?_) (fun c_5 => ?_)
    · have c_5 := zb_eq c_5
      refine lv_iinc (v := nI ((i) + 1)) (lv' := [(4, .int (nI ((i) + 1))), (0, .int a0), (1, .int b0), (2, .long (dgL a0 b0 (i)))]) hx hb dX2_digitsOf_31 hl (k := 3) rfl (zinc _) (by decide) rfl (fun ls hl => ?_)
      refine lv_goto (tgt := 5) hx hb dX2_digitsOf_34 (by decide) ?_
      exact ih_5 ls (lv_re (lv_sub hl [1, 2, 3, 0] rfl) (by first | rfl | (simp only [dgL, c_2, c_5]; done) | (simp only [dgL, c_2, c_5]; rfl) | (simp [dgL, c_2, c_5]; done)))
    · have c_5 := zb_ne c_5
      refine lv_lload_n hx hb dX2_digitsOf_20 rfl (lv_at hl 2 rfl) ?_
      refine lv_iload_n hx hb dX2_digitsOf_21 rfl (lv_at hl 1 rfl) ?_
      refine lv_i2l hx hb dX2_digitsOf_22 rfl ?_
      refine lv_iload hx hb dX2_digitsOf_23 (lv_at hl 3 rfl) ?_
      refine vp_callSi (va_Run.run (va_runS (As := [.int (nI (i))]) (rest := [.long (b0.toInt64), .long (dgL a0 b0 (i))]) ⟨hx, hb, hml, hown, hts⟩ (zX2_digitShift l D cI cL cE cP (ws) (nI (i))) (va_cwS 1 hts gX2_digitsOf_X2_digitShift rfl rfl rfl (by decide +kernel) ⟨Nat.le_of_ble_eq_true rfl, Nat.le_of_ble_eq_true rfl⟩) ⟨zPr_blind, zPr_mk hE hP⟩ rfl rfl hl.1 rfl (lv_room (Nat.le_of_ble_eq_true rfl)) dX2_digitsOf_25 ⟨Nat.le_of_ble_eq_true rfl, Nat.le_of_ble_eq_true rfl⟩)) (fun r_6 e_7 => ?_)
      obtain rfl := e_7
      refine lv_lshl hx hb dX2_digitsOf_28 rfl ?_
      refine lv_ladd hx hb dX2_digitsOf_29 ?_
      refine lv_lstore_n (lv' := [(2, .long ((dgL a0 b0 (i)) + (b0.toInt64 <<< ((4 * (4 - (nI (i)))).toInt64 &&& 63)))), (0, .int a0), (1, .int b0), (4, .int (nI (i)))]) hx hb dX2_digitsOf_30 rfl hl (by decide) rfl (fun ls hl => ?_)
      refine lv_iinc (v := nI ((i) + 1)) (lv' := [(4, .int (nI ((i) + 1))), (2, .long ((dgL a0 b0 (i)) + (b0.toInt64 <<< ((4 * (4 - (nI (i)))).toInt64 &&& 63)))), (0, .int a0), (1, .int b0)]) hx hb dX2_digitsOf_31 hl (k := 3) rfl (zinc _) (by decide) rfl (fun ls hl => ?_)
      refine lv_goto (tgt := 5) hx hb dX2_digitsOf_34 (by decide) ?_
      exact ih_5 ls (lv_re (lv_sub hl [2, 3, 1, 0] rfl) (by first | rfl | (simp only [dgL, c_2, c_5]; done) | (simp only [dgL, c_2, c_5]; rfl) | (simp [dgL, c_2, c_5]; done)))
set_option maxHeartbeats 4000000 in
set_option maxRecDepth 100000 in
theorem zX2_fillPrices (l : Launch) (D : va_G) (cI cL cE cP : ClassId) (ad : Nat → Nat) (g : Nat → Nat → Int32) (n k : Nat) (us wb tr : Nat → Int32) (pr le : Nat → Int64) (tk gf : Int32) (hok : zOk g n k) (e0 : Int32) (sz : Nat) : Met l yX2_fillPrices wsX2_fillPrices ({ frames := 2, cells := 0, slots := 0, locals := 45 }) (zPw D cI cL cE cP (cws cI cL cE cP ad g n k us wb tr pr le tk gf) sz [.ref (ad 5), .int e0]) (zQv D (cws cI cL cE cP ad g n k us wb tr pr le tk gf) sz (cws cI cL cE cP ad g n k us wb tr (zfl (fun j => prF wb e0 (nI j)) pr 32) le tk gf)) 0 0 (va_A (cws cI cL cE cP ad g n k us wb tr pr le tk gf) sz) := by
  refine Met.ofW (cc := cX2_fillPrices) (maxL := 3) (ret := none) (by decide) rfl ?_
  intro p e s m args below meth c s₁ B hml hv
  obtain ⟨rfl, hsz, hE, hP, hD0⟩ := hv
  subst hsz
  obtain ⟨A, hAe⟩ : ∃ A, A = va_A (cws cI cL cE cP ad g n k us wb tr pr le tk gf) s.heap.size := ⟨_, rfl⟩
  have hD : va_D A (cws cI cL cE cP ad g n k us wb tr pr le tk gf) := by rw [hAe]; exact hD0.self
  have hA : ∀ q : Nat, s.heap.size ≤ q → A q := fun q h => by rw [hAe]; exact Or.inr h
  have hS : va_S A s.heap s.heap [] := va_S.rf
  have hx := B.exec
  have hb := B.bytes
  have hr := B.returns
  have hts := atoms_spec (ws := wsX2_fillPrices) B.pre
  have hown : s.vm.findClass RX2 = some m.cls := findClass_of_methodNamed B.named
  have hlocks := B.notSynchronized
  have hK := hE.1
  have iX2 : ∀ w ∈ wsX20, w ∈ wsX2_fillPrices := by decide +kernel
  have hl := lv_entry ([.ref (ad 5), .int e0]) (n := 3) (Nat.le_of_ble_eq_true rfl)
  rw [lg_entry_eq]
  generalize (lg_sl ([.ref (ad 5), .int e0]) ++ List.replicate (3 - (lg_sl ([.ref (ad 5), .int e0])).length) Slot.unset).toArray = ls at hl ⊢
  have hl : lv_has ls 3 [(0, .ref (ad 5)), (1, .int e0)] := hl
  refine lv_iconst (v := 0) hx hb dX2_fillPrices_0 (by decide) ?_
  refine lv_istore_n (lv' := [(2, .int 0), (0, .ref (ad 5)), (1, .int e0)]) hx hb dX2_fillPrices_1 rfl hl (by decide) rfl (fun ls hl => ?_)
  refine zloopM (nL := 3) (lv := fun i => [(0, .ref (ad 5)), (1, .int e0), (2, .int (nI (i)))]) (wd := fun i => cws cI cL cE cP ad g n k us wb tr (zfl (fun j => prF wb e0 (nI j)) pr (i)) le tk gf) (n := 32) (lv_re (lv_sub hl [1, 2, 0] rfl) (by first | rfl | (simp only [nI_0]; done) | (simp only [nI_0]; rfl) | (simp [nI_0]; done))) (zP_re hP (by rw [zfl_0])) (zD_re hD (by rw [zfl_0])) hS (fun H locs ls hP hD hS hl => ?_) (fun i hi ih_2 H locs ls hP hD hS hl => ?_)
  · have hl : lv_has ls 3 [(0, .ref (ad 5)), (1, .int e0), (2, .int (nI (32)))] := hl
    have hP : va_P D vwCl (cws cI cL cE cP ad g n k us wb tr (zfl (fun j => prF wb e0 (nI j)) pr (32)) le tk gf) H := hP
    have hD : va_D A (cws cI cL cE cP ad g n k us wb tr (zfl (fun j => prF wb e0 (nI j)) pr (32)) le tk gf) := hD
    refine lv_iload_n hx hb dX2_fillPrices_2 rfl (lv_at hl 2 rfl) ?_
    refine lv_aload_n hx hb dX2_fillPrices_3 rfl (lv_at hl 0 rfl) ?_
    refine va_get (D := D) (ci := 2) (v := .ref (ad 9)) (C := RX2) (T := TX2) (N := 7) hx hb hts iX2 hown hK hP 5 cws_5 rfl 3 (by decide) (hts (.fieldLink RX2 21 "CapitalReckoner$Search" "prices" "[J") (by decide +kernel)) (fun _ h9 => h9) rfl dX2_fillPrices_4 ?_
    refine va_alen (v := nI 32) hx hb hK hP 9 1 cws_9 rfl (by first | rfl | decide) dX2_fillPrices_7 ?_
    refine lv_icmp_ge (tgt := 39) hx hb dX2_fillPrices_8 (by decide) (fun c_1 => ?_) (fun c_1 => absurd (zle_refl (nI 32)) c_1)
    exact zvret hx hb hr hAe (zP_re hP (by first | rfl | (simp only [c_1]; done) | (simp only [c_1]; rfl) | (simp [c_1]; done))) (zD_re hD (by first | rfl | (simp only [c_1]; done) | (simp only [c_1]; rfl) | (simp [c_1]; done))) hS dX2_fillPrices_39
  · have hl : lv_has ls 3 [(0, .ref (ad 5)), (1, .int e0), (2, .int (nI (i)))] := hl
    have hP : va_P D vwCl (cws cI cL cE cP ad g n k us wb tr (zfl (fun j => prF wb e0 (nI j)) pr (i)) le tk gf) H := hP
    have hD : va_D A (cws cI cL cE cP ad g n k us wb tr (zfl (fun j => prF wb e0 (nI j)) pr (i)) le tk gf) := hD
    refine lv_iload_n hx hb dX2_fillPrices_2 rfl (lv_at hl 2 rfl) ?_
    refine lv_aload_n hx hb dX2_fillPrices_3 rfl (lv_at hl 0 rfl) ?_
    refine va_get (D := D) (ci := 2) (v := .ref (ad 9)) (C := RX2) (T := TX2) (N := 7) hx hb hts iX2 hown hK hP 5 cws_5 rfl 3 (by decide) (hts (.fieldLink RX2 21 "CapitalReckoner$Search" "prices" "[J") (by decide +kernel)) (fun _ h9 => h9) rfl dX2_fillPrices_4 ?_
    refine va_alen (v := nI 32) hx hb hK hP 9 1 cws_9 rfl (by first | rfl | decide) dX2_fillPrices_7 ?_
    refine lv_icmp_ge (tgt := 39) hx hb dX2_fillPrices_8 (by decide) (fun c_2 => absurd c_2 (nI_ge hi (by decide))) (fun c_2 => ?_)
    refine lv_aload_n hx hb dX2_fillPrices_11 rfl (lv_at hl 0 rfl) ?_
    refine va_get (D := D) (ci := 2) (v := .ref (ad 9)) (C := RX2) (T := TX2) (N := 7) hx hb hts iX2 hown hK hP 5 cws_5 rfl 3 (by decide) (hts (.fieldLink RX2 21 "CapitalReckoner$Search" "prices" "[J") (by decide +kernel)) (fun _ h9 => h9) rfl dX2_fillPrices_12 ?_
    refine lv_iload_n hx hb dX2_fillPrices_15 rfl (lv_at hl 2 rfl) ?_
    refine lv_aload_n hx hb dX2_fillPrices_16 rfl (lv_at hl 0 rfl) ?_
    refine lv_iload_n hx hb dX2_fillPrices_17 rfl (lv_at hl 1 rfl) ?_
    refine lv_iload_n hx hb dX2_fillPrices_18 rfl (lv_at hl 2 rfl) ?_
    refine vp_callSi (va_Run.run (va_runV (As := [.int e0, .int (nI (i))]) (rest := [.int (nI (i)), .ref (ad 9)]) ⟨hx, hb, hml, hown, hts⟩ (zX2_weightedWith l D cI cL cE cP ad g n k us wb tr (zfl (fun j => prF wb e0 (nI j)) pr (i)) le tk gf hok (e0) (nI (i))) (cwV 2 hts gX2_fillPrices_X2_weightedWith rfl rfl rfl (by decide +kernel) ⟨Nat.le_of_ble_eq_true rfl, Nat.le_of_ble_eq_true rfl⟩) ⟨zPr_blind, va_recv hK hP (ci := 2) (q0 := 5) rfl cws_5, zPr_mk hE hP⟩ rfl rfl hl.1 rfl (lv_room (Nat.le_of_ble_eq_true rfl)) dX2_fillPrices_19 ⟨Nat.le_of_ble_eq_true rfl, Nat.le_of_ble_eq_true rfl⟩)) (fun r_3 e_4 => ?_)
    obtain rfl := e_4
    refine lv_i2l hx hb dX2_fillPrices_22 rfl ?_
    refine lv_bipush (v := 20) hx hb dX2_fillPrices_23 (by decide) ?_
    refine lv_lshl hx hb dX2_fillPrices_25 rfl ?_
    refine lv_iload_n hx hb dX2_fillPrices_26 rfl (lv_at hl 2 rfl) ?_
    refine lv_iload_n hx hb dX2_fillPrices_27 rfl (lv_at hl 1 rfl) ?_
    refine vp_callSl (va_Run.run (va_runS (As := [.int (nI (i)), .int e0]) (rest := [.long (((zat 256 wb (e0 * 32 + (nI (i)))).toInt64) <<< (((20 : Int32)).toInt64 &&& 63)), .int (nI (i)), .ref (ad 9)]) ⟨hx, hb, hml, hown, hts⟩ (zX2_digitsOf l D cI cL cE cP (cws cI cL cE cP ad g n k us wb tr (zfl (fun j => prF wb e0 (nI j)) pr (i)) le tk gf) (nI (i)) (e0)) (va_cwS 2 hts gX2_fillPrices_X2_digitsOf rfl rfl rfl (by decide +kernel) ⟨Nat.le_of_ble_eq_true rfl, Nat.le_of_ble_eq_true rfl⟩) ⟨zPr_blind, zPr_mk hE hP⟩ rfl rfl hl.1 rfl (lv_room (Nat.le_of_ble_eq_true rfl)) dX2_fillPrices_28 ⟨Nat.le_of_ble_eq_true rfl, Nat.le_of_ble_eq_true rfl⟩)) (fun r_5 e_6 => ?_)
    obtain rfl := e_6
    refine lv_ladd hx hb dX2_fillPrices_31 ?_
    refine zlast (f2 := zfl (fun j => prF wb e0 (nI j)) pr (i + 1)) hx hb hK hP hD hS 9 1 cws_9 rfl (vp_in_nI hi (by decide)) (by rw [nI_clamp (by omega)]; exact zfl_uL (fun j => prF wb e0 (nI j)) pr i) dX2_fillPrices_32 (fun H locs hP hD hS => ?_)
    have hP : va_P D vwCl (cws cI cL cE cP ad g n k us wb tr (zfl (fun j => prF wb e0 (nI j)) pr (i + 1)) le tk gf) H := zP_re hP (cws_s9).symm
    have hD : va_D A (cws cI cL cE cP ad g n k us wb tr (zfl (fun j => prF wb e0 (nI j)) pr (i + 1)) le tk gf) := zD_re hD (cws_s9).symm
    refine lv_iinc (v := nI ((i) + 1)) (lv' := [(2, .int (nI ((i) + 1))), (0, .ref (ad 5)), (1, .int e0)]) hx hb dX2_fillPrices_33 hl (k := 2) rfl (zinc _) (by decide) rfl (fun ls hl => ?_)
    refine lv_goto (tgt := 2) hx hb dX2_fillPrices_36 (by decide) ?_
    exact ih_2 H locs ls (zP_re hP (by first | rfl | (simp only [c_2]; done) | (simp only [c_2]; rfl) | (simp [c_2]; done))) (zD_re hD (by first | rfl | (simp only [c_2]; done) | (simp only [c_2]; rfl) | (simp [c_2]; done))) hS (lv_re (lv_sub hl [1, 2, 0] rfl) (by first | rfl | (simp only [c_2]; done) | (simp only [c_2]; rfl) | (simp [c_2]; done)))
set_option maxHeartbeats 4000000 in
set_option maxRecDepth 100000 in
theorem zX2_priceOf (l : Launch) (D : va_G) (cI cL cE cP : ClassId) (ad : Nat → Nat) (g : Nat → Nat → Int32) (n k : Nat) (us wb tr : Nat → Int32) (pr le : Nat → Int64) (tk gf : Int32) (hok : zOk g n k) (x : Int32) : Met l yX2_priceOf wsX2_priceOf ({ frames := 0, cells := 0, slots := 0, locals := 0 }) (zPr D cI cL cE cP (cws cI cL cE cP ad g n k us wb tr pr le tk gf) [.ref (ad 5), .int x]) (vp_Sl (fun r : Int64 => r = zatL 32 pr x)) 0 0 (fun _ => False) := by
  refine Met.ofW (cc := cX2_priceOf) (maxL := 2) (ret := (some .long)) (by decide) rfl ?_
  intro p e s m args below meth c s₁ B hml hv
  obtain ⟨rfl, hE, hP⟩ := hv
  have hx := B.exec
  have hb := B.bytes
  have hr := B.returns
  have hts := atoms_spec (ws := wsX2_priceOf) B.pre
  have hown : s.vm.findClass RX2 = some m.cls := findClass_of_methodNamed B.named
  have hlocks := B.notSynchronized
  have hK := hE.1
  have iX2 : ∀ w ∈ wsX20, w ∈ wsX2_priceOf := by decide +kernel
  have hl := lv_entry ([.ref (ad 5), .int x]) (n := 2) (Nat.le_of_ble_eq_true rfl)
  rw [lg_entry_eq]
  generalize (lg_sl ([.ref (ad 5), .int x]) ++ List.replicate (2 - (lg_sl ([.ref (ad 5), .int x])).length) Slot.unset).toArray = ls at hl ⊢
  have hl : lv_has ls 2 [(0, .ref (ad 5)), (1, .int x)] := hl
  refine lv_iconst (v := 0) hx hb dX2_priceOf_0 (by decide) ?_
  refine lv_iload_n hx hb dX2_priceOf_1 rfl (lv_at hl 1 rfl) ?_
  refine lv_icmp_gt (tgt := 23) hx hb dX2_priceOf_2 (by decide) (fun c_1 => ?_) (fun c_1 => ?_)
  · refine lv_lconst (v := 0) hx hb dX2_priceOf_23 (by decide) ?_
    exact W.lret (v := 0) hx hb hr (fun t ht hW => ⟨_, rfl, (by first | rfl | (simp only [zatL, c_1]; done) | (simp only [zatL, c_1]; rfl) | (simp [zatL, c_1]; done)), ht⟩) (fun _ h => nomatch h) dX2_priceOf_24
  · refine lv_iload_n hx hb dX2_priceOf_5 rfl (lv_at hl 1 rfl) ?_
    refine lv_aload_n hx hb dX2_priceOf_6 rfl (lv_at hl 0 rfl) ?_
    refine va_get (D := D) (ci := 2) (v := .ref (ad 9)) (C := RX2) (T := TX2) (N := 7) hx hb hts iX2 hown hK hP 5 cws_5 rfl 3 (by decide) (hts (.fieldLink RX2 21 "CapitalReckoner$Search" "prices" "[J") (by decide +kernel)) (fun _ h9 => h9) rfl dX2_priceOf_7 ?_
    refine va_alen (v := nI 32) hx hb hK hP 9 1 cws_9 rfl (by first | rfl | decide) dX2_priceOf_10 ?_
    refine lv_icmp_ge (tgt := 23) hx hb dX2_priceOf_11 (by decide) (fun c_2 => ?_) (fun c_2 => ?_)
    · refine lv_lconst (v := 0) hx hb dX2_priceOf_23 (by decide) ?_
      exact W.lret (v := 0) hx hb hr (fun t ht hW => ⟨_, rfl, (by first | rfl | (simp only [zatL, c_1, c_2]; done) | (simp only [zatL, c_1, c_2]; rfl) | (simp [zatL, c_1, c_2]; done)), ht⟩) (fun _ h => nomatch h) dX2_priceOf_24
    · refine lv_aload_n hx hb dX2_priceOf_14 rfl (lv_at hl 0 rfl) ?_
      refine va_get (D := D) (ci := 2) (v := .ref (ad 9)) (C := RX2) (T := TX2) (N := 7) hx hb hts iX2 hown hK hP 5 cws_5 rfl 3 (by decide) (hts (.fieldLink RX2 21 "CapitalReckoner$Search" "prices" "[J") (by decide +kernel)) (fun _ h9 => h9) rfl dX2_priceOf_15 ?_
      refine lv_iload_n hx hb dX2_priceOf_18 rfl (lv_at hl 1 rfl) ?_
      refine zlald (v := pr x.toNatClampNeg) hx hb hK hP 9 1 cws_9 rfl (zin_of (N := 32) (by decide) c_1 c_2) (rfl) dX2_priceOf_19 ?_
      refine lv_goto (tgt := 24) hx hb dX2_priceOf_20 (by decide) ?_
      exact W.lret (v := pr x.toNatClampNeg) hx hb hr (fun t ht hW => ⟨_, rfl, (by first | rfl | (simp only [zatL, c_1, c_2]; done) | (simp only [zatL, c_1, c_2]; rfl) | (simp [zatL, c_1, c_2]; done)), ht⟩) (fun _ h => nomatch h) dX2_priceOf_24
set_option maxHeartbeats 4000000 in
set_option maxRecDepth 100000 in
theorem zX2_leastKey (l : Launch) (D : va_G) (cI cL cE cP : ClassId) (ad : Nat → Nat) (g : Nat → Nat → Int32) (n k : Nat) (us wb tr : Nat → Int32) (pr le : Nat → Int64) (tk gf : Int32) (hok : zOk g n k) (x : Int32) : Met l yX2_leastKey wsX2_leastKey ({ frames := 0, cells := 0, slots := 0, locals := 0 }) (zPr D cI cL cE cP (cws cI cL cE cP ad g n k us wb tr pr le tk gf) [.ref (ad 5), .int x]) (vp_Sl (fun r : Int64 => r = zatL 32 le x)) 0 0 (fun _ => False) := by
  refine Met.ofW (cc := cX2_leastKey) (maxL := 2) (ret := (some .long)) (by decide) rfl ?_
  intro p e s m args below meth c s₁ B hml hv
  obtain ⟨rfl, hE, hP⟩ := hv
  have hx := B.exec
  have hb := B.bytes
  have hr := B.returns
  have hts := atoms_spec (ws := wsX2_leastKey) B.pre
  have hown : s.vm.findClass RX2 = some m.cls := findClass_of_methodNamed B.named
  have hlocks := B.notSynchronized
  have hK := hE.1
  have iX2 : ∀ w ∈ wsX20, w ∈ wsX2_leastKey := by decide +kernel
  have hl := lv_entry ([.ref (ad 5), .int x]) (n := 2) (Nat.le_of_ble_eq_true rfl)
  rw [lg_entry_eq]
  generalize (lg_sl ([.ref (ad 5), .int x]) ++ List.replicate (2 - (lg_sl ([.ref (ad 5), .int x])).length) Slot.unset).toArray = ls at hl ⊢
  have hl : lv_has ls 2 [(0, .ref (ad 5)), (1, .int x)] := hl
  refine lv_iconst (v := 0) hx hb dX2_leastKey_0 (by decide) ?_
  refine lv_iload_n hx hb dX2_leastKey_1 rfl (lv_at hl 1 rfl) ?_
  refine lv_icmp_gt (tgt := 23) hx hb dX2_leastKey_2 (by decide) (fun c_1 => ?_) (fun c_1 => ?_)
  · refine lv_lconst (v := 0) hx hb dX2_leastKey_23 (by decide) ?_
    exact W.lret (v := 0) hx hb hr (fun t ht hW => ⟨_, rfl, (by first | rfl | (simp only [zatL, c_1]; done) | (simp only [zatL, c_1]; rfl) | (simp [zatL, c_1]; done)), ht⟩) (fun _ h => nomatch h) dX2_leastKey_24
  · refine lv_iload_n hx hb dX2_leastKey_5 rfl (lv_at hl 1 rfl) ?_
    refine lv_aload_n hx hb dX2_leastKey_6 rfl (lv_at hl 0 rfl) ?_
    refine va_get (D := D) (ci := 2) (v := .ref (ad 10)) (C := RX2) (T := TX2) (N := 7) hx hb hts iX2 hown hK hP 5 cws_5 rfl 4 (by decide) (hts (.fieldLink RX2 25 "CapitalReckoner$Search" "least" "[J") (by decide +kernel)) (fun _ h9 => h9) rfl dX2_leastKey_7 ?_
    refine va_alen (v := nI 32) hx hb hK hP 10 1 cws_10 rfl (by first | rfl | decide) dX2_leastKey_10 ?_
    refine lv_icmp_ge (tgt := 23) hx hb dX2_leastKey_11 (by decide) (fun c_2 => ?_) (fun c_2 => ?_)
    · refine lv_lconst (v := 0) hx hb dX2_leastKey_23 (by decide) ?_
      exact W.lret (v := 0) hx hb hr (fun t ht hW => ⟨_, rfl, (by first | rfl | (simp only [zatL, c_1, c_2]; done) | (simp only [zatL, c_1, c_2]; rfl) | (simp [zatL, c_1, c_2]; done)), ht⟩) (fun _ h => nomatch h) dX2_leastKey_24
    · refine lv_aload_n hx hb dX2_leastKey_14 rfl (lv_at hl 0 rfl) ?_
      refine va_get (D := D) (ci := 2) (v := .ref (ad 10)) (C := RX2) (T := TX2) (N := 7) hx hb hts iX2 hown hK hP 5 cws_5 rfl 4 (by decide) (hts (.fieldLink RX2 25 "CapitalReckoner$Search" "least" "[J") (by decide +kernel)) (fun _ h9 => h9) rfl dX2_leastKey_15 ?_
      refine lv_iload_n hx hb dX2_leastKey_18 rfl (lv_at hl 1 rfl) ?_
      refine zlald (v := le x.toNatClampNeg) hx hb hK hP 10 1 cws_10 rfl (zin_of (N := 32) (by decide) c_1 c_2) (rfl) dX2_leastKey_19 ?_
      refine lv_goto (tgt := 24) hx hb dX2_leastKey_20 (by decide) ?_
      exact W.lret (v := le x.toNatClampNeg) hx hb hr (fun t ht hW => ⟨_, rfl, (by first | rfl | (simp only [zatL, c_1, c_2]; done) | (simp only [zatL, c_1, c_2]; rfl) | (simp [zatL, c_1, c_2]; done)), ht⟩) (fun _ h => nomatch h) dX2_leastKey_24
set_option maxHeartbeats 4000000 in
set_option maxRecDepth 100000 in
theorem zX2_leastOf (l : Launch) (D : va_G) (cI cL cE cP : ClassId) (ad : Nat → Nat) (g : Nat → Nat → Int32) (n k : Nat) (us wb tr : Nat → Int32) (pr le : Nat → Int64) (tk gf : Int32) (hok : zOk g n k) (S : Nat) (hS : S < 32) (u : Int32) : Met l yX2_leastOf wsX2_leastOf ({ frames := 1, cells := 0, slots := 0, locals := 24 }) (zPr D cI cL cE cP (cws cI cL cE cP ad g n k us wb tr pr le tk gf) [.ref (ad 5), .int (nI S), .int u]) (vp_Sl (fun r : Int64 => r = loL pr le S u S)) 0 0 (fun _ => False) := by
  refine Met.ofW (cc := cX2_leastOf) (maxL := 6) (ret := (some .long)) (by decide) rfl ?_
  intro p e s m args below meth c s₁ B hml hv
  obtain ⟨rfl, hE, hP⟩ := hv
  have hx := B.exec
  have hb := B.bytes
  have hr := B.returns
  have hts := atoms_spec (ws := wsX2_leastOf) B.pre
  have hown : s.vm.findClass RX2 = some m.cls := findClass_of_methodNamed B.named
  have hlocks := B.notSynchronized
  have hK := hE.1
  have hl := lv_entry ([.ref (ad 5), .int (nI S), .int u]) (n := 6) (Nat.le_of_ble_eq_true rfl)
  rw [lg_entry_eq]
  generalize (lg_sl ([.ref (ad 5), .int (nI S), .int u]) ++ List.replicate (6 - (lg_sl ([.ref (ad 5), .int (nI S), .int u])).length) Slot.unset).toArray = ls at hl ⊢
  have hl : lv_has ls 6 [(0, .ref (ad 5)), (1, .int (nI S)), (2, .int u)] := hl
  refine lv_aload_n hx hb dX2_leastOf_0 rfl (lv_at hl 0 rfl) ?_
  refine lv_iconst (v := 0) hx hb dX2_leastOf_1 (by decide) ?_
  refine vp_callSl (va_Run.run (va_runV (As := [.int 0]) (rest := []) ⟨hx, hb, hml, hown, hts⟩ (zX2_priceOf l D cI cL cE cP ad g n k us wb tr pr le tk gf hok (0)) (cwV 1 hts gX2_leastOf_X2_priceOf rfl rfl rfl (by decide +kernel) ⟨Nat.le_of_ble_eq_true rfl, Nat.le_of_ble_eq_true rfl⟩) ⟨zPr_blind, va_recv hK hP (ci := 2) (q0 := 5) rfl cws_5, zPr_mk hE hP⟩ rfl rfl hl.1 rfl (lv_room (Nat.le_of_ble_eq_true rfl)) dX2_leastOf_2 ⟨Nat.le_of_ble_eq_true rfl, Nat.le_of_ble_eq_true rfl⟩)) (fun r_1 e_2 => ?_)
  obtain rfl := e_2
  refine lv_aload_n hx hb dX2_leastOf_5 rfl (lv_at hl 0 rfl) ?_
  refine lv_iload_n hx hb dX2_leastOf_6 rfl (lv_at hl 1 rfl) ?_
  refine vp_callSl (va_Run.run (va_runV (As := [.int (nI S)]) (rest := [.long (zatL 32 pr 0)]) ⟨hx, hb, hml, hown, hts⟩ (zX2_leastKey l D cI cL cE cP ad g n k us wb tr pr le tk gf hok (nI S)) (cwV 1 hts gX2_leastOf_X2_leastKey rfl rfl rfl (by decide +kernel) ⟨Nat.le_of_ble_eq_true rfl, Nat.le_of_ble_eq_true rfl⟩) ⟨zPr_blind, va_recv hK hP (ci := 2) (q0 := 5) rfl cws_5, zPr_mk hE hP⟩ rfl rfl hl.1 rfl (lv_room (Nat.le_of_ble_eq_true rfl)) dX2_leastOf_7 ⟨Nat.le_of_ble_eq_true rfl, Nat.le_of_ble_eq_true rfl⟩)) (fun r_3 e_4 => ?_)
  obtain rfl := e_4
  refine lv_ladd hx hb dX2_leastOf_10 ?_
  refine lv_lstore_n (lv' := [(3, .long ((zatL 32 pr 0) + (zatL 32 le (nI S)))), (0, .ref (ad 5)), (1, .int (nI S)), (2, .int u)]) hx hb dX2_leastOf_11 rfl hl (by decide) rfl (fun ls hl => ?_)
  refine lv_iconst (v := 1) hx hb dX2_leastOf_12 (by decide) ?_
  refine lv_istore (lv' := [(5, .int 1), (3, .long ((zatL 32 pr 0) + (zatL 32 le (nI S)))), (0, .ref (ad 5)), (1, .int (nI S)), (2, .int u)]) hx hb dX2_leastOf_13 hl (by decide) rfl (fun ls hl => ?_)
  refine zloop (nL := 6) (lv := fun i => [(0, .ref (ad 5)), (1, .int (nI S)), (2, .int u), (3, .long (loL pr le S u (i))), (5, .int (nI (i + 1)))]) (n := S) (lv_re (lv_sub hl [2, 3, 4, 1, 0] rfl) (by first | rfl | (simp only [loL, nI_0]; done) | (simp only [loL, nI_0]; rfl) | (simp [loL, nI_0]; done))) (fun ls hl => ?_) (fun i hi ih_15 ls hl => ?_)
  · have hl : lv_has ls 6 [(0, .ref (ad 5)), (1, .int (nI S)), (2, .int u), (3, .long (loL pr le S u (S))), (5, .int (nI (S + 1)))] := hl
    refine lv_iload hx hb dX2_leastOf_15 (lv_at hl 4 rfl) ?_
    refine lv_iload_n hx hb dX2_leastOf_17 rfl (lv_at hl 1 rfl) ?_
    refine lv_icmp_gt (tgt := 58) hx hb dX2_leastOf_18 (by decide) (fun c_5 => ?_) (fun c_5 => absurd (nI_lt (Nat.lt_succ_self S) (by omega)) c_5)
    refine lv_lload_n hx hb dX2_leastOf_58 rfl (lv_at hl 3 rfl) ?_
    exact W.lret (v := loL pr le S u (S)) hx hb hr (fun t ht hW => ⟨_, rfl, (by first | rfl | (simp only [loL, c_5]; done) | (simp only [loL, c_5]; rfl) | (simp [loL, c_5]; done)), ht⟩) (fun _ h => nomatch h) dX2_leastOf_59
  · have hl : lv_has ls 6 [(0, .ref (ad 5)), (1, .int (nI S)), (2, .int u), (3, .long (loL pr le S u (i))), (5, .int (nI (i + 1)))] := hl
    refine lv_iload hx hb dX2_leastOf_15 (lv_at hl 4 rfl) ?_
    refine lv_iload_n hx hb dX2_leastOf_17 rfl (lv_at hl 1 rfl) ?_
    refine lv_icmp_gt (tgt := 58) hx hb dX2_leastOf_18 (by decide) (fun c_6 => absurd c_6 (nI_nlt hi (by omega))) (fun c_6 => ?_)
    refine lv_iload hx hb dX2_leastOf_21 (lv_at hl 4 rfl) ?_
    refine lv_iload_n hx hb dX2_leastOf_23 rfl (lv_at hl 1 rfl) ?_
    refine lv_iand hx hb dX2_leastOf_24 ?_
    refine lv_iload_n hx hb dX2_leastOf_25 rfl (lv_at hl 2 rfl) ?_
    refine lv_iand hx hb dX2_leastOf_26 ?_
    refine lv_iload hx hb dX2_leastOf_27 (lv_at hl 4 rfl) ?_
    refine lv_icmp_ne (tgt := 52) hx hb dX2_leastOf_29 (by decide) (fun c_7 => ?_) (fun c_7 => ?_)
    · refine lv_iinc (v := nI ((i + 1) + 1)) (lv' := [(5, .int (nI ((i + 1) + 1))), (0, .ref (ad 5)), (1, .int (nI S)), (2, .int u), (3, .long (loL pr le S u (i)))]) hx hb dX2_leastOf_52 hl (k := 4) rfl (zinc _) (by decide) rfl (fun ls hl => ?_)
      refine lv_goto (tgt := 15) hx hb dX2_leastOf_55 (by decide) ?_
      exact ih_15 ls (lv_re (lv_sub hl [1, 2, 3, 4, 0] rfl) (by first | rfl | (simp only [loL, c_6, c_7]; done) | (simp only [loL, c_6, c_7]; rfl) | (simp [loL, c_6, c_7]; done)))
    · refine lv_lload_n hx hb dX2_leastOf_32 rfl (lv_at hl 3 rfl) ?_
      refine lv_aload_n hx hb dX2_leastOf_33 rfl (lv_at hl 0 rfl) ?_
      refine lv_iload hx hb dX2_leastOf_34 (lv_at hl 4 rfl) ?_
      refine vp_callSl (va_Run.run (va_runV (As := [.int (nI (i + 1))]) (rest := [.long (loL pr le S u (i))]) ⟨hx, hb, hml, hown, hts⟩ (zX2_priceOf l D cI cL cE cP ad g n k us wb tr pr le tk gf hok (nI (i + 1))) (cwV 1 hts gX2_leastOf_X2_priceOf rfl rfl rfl (by decide +kernel) ⟨Nat.le_of_ble_eq_true rfl, Nat.le_of_ble_eq_true rfl⟩) ⟨zPr_blind, va_recv hK hP (ci := 2) (q0 := 5) rfl cws_5, zPr_mk hE hP⟩ rfl rfl hl.1 rfl (lv_room (Nat.le_of_ble_eq_true rfl)) dX2_leastOf_36 ⟨Nat.le_of_ble_eq_true rfl, Nat.le_of_ble_eq_true rfl⟩)) (fun r_8 e_9 => ?_)
      obtain rfl := e_9
      refine lv_aload_n hx hb dX2_leastOf_39 rfl (lv_at hl 0 rfl) ?_
      refine lv_iload_n hx hb dX2_leastOf_40 rfl (lv_at hl 1 rfl) ?_
      refine lv_iload hx hb dX2_leastOf_41 (lv_at hl 4 rfl) ?_
      refine lv_isub hx hb dX2_leastOf_43 ?_
      refine vp_callSl (va_Run.run (va_runV (As := [.int ((nI S) - (nI (i + 1)))]) (rest := [.long (zatL 32 pr (nI (i + 1))), .long (loL pr le S u (i))]) ⟨hx, hb, hml, hown, hts⟩ (zX2_leastKey l D cI cL cE cP ad g n k us wb tr pr le tk gf hok ((nI S) - (nI (i + 1)))) (cwV 1 hts gX2_leastOf_X2_leastKey rfl rfl rfl (by decide +kernel) ⟨Nat.le_of_ble_eq_true rfl, Nat.le_of_ble_eq_true rfl⟩) ⟨zPr_blind, va_recv hK hP (ci := 2) (q0 := 5) rfl cws_5, zPr_mk hE hP⟩ rfl rfl hl.1 rfl (lv_room (Nat.le_of_ble_eq_true rfl)) dX2_leastOf_44 ⟨Nat.le_of_ble_eq_true rfl, Nat.le_of_ble_eq_true rfl⟩)) (fun r_10 e_11 => ?_)
      obtain rfl := e_11
      refine lv_ladd hx hb dX2_leastOf_47 ?_
      refine va_mmin_long hx hb (hml.trans hl.1.symm) hown (hts (.methodLink RX2 78 Lib.MathLoose.min_long.x) (by decide +kernel)) (hts (.static Lib.MathLoose.min_long.x) (by decide +kernel)) (hts (.initialized "java/lang/Math") (by decide +kernel)) (hts (.code Lib.MathLoose.min_long.x Lib.MathLoose.min_long.code 4 (some .long)) (by decide +kernel)) (Nat.le_of_ble_eq_true rfl) (Nat.le_of_ble_eq_true rfl) (Nat.zero_le _) (Nat.zero_le _) dX2_leastOf_48 ?_
      refine lv_lstore_n (lv' := [(3, .long (if (zatL 32 pr (nI (i + 1))) + (zatL 32 le ((nI S) - (nI (i + 1)))) < loL pr le S u (i) then (zatL 32 pr (nI (i + 1))) + (zatL 32 le ((nI S) - (nI (i + 1)))) else loL pr le S u (i))), (0, .ref (ad 5)), (1, .int (nI S)), (2, .int u), (5, .int (nI (i + 1)))]) hx hb dX2_leastOf_51 rfl hl (by decide) rfl (fun ls hl => ?_)
      refine lv_iinc (v := nI ((i + 1) + 1)) (lv' := [(5, .int (nI ((i + 1) + 1))), (3, .long (if (zatL 32 pr (nI (i + 1))) + (zatL 32 le ((nI S) - (nI (i + 1)))) < loL pr le S u (i) then (zatL 32 pr (nI (i + 1))) + (zatL 32 le ((nI S) - (nI (i + 1)))) else loL pr le S u (i))), (0, .ref (ad 5)), (1, .int (nI S)), (2, .int u)]) hx hb dX2_leastOf_52 hl (k := 4) rfl (zinc _) (by decide) rfl (fun ls hl => ?_)
      refine lv_goto (tgt := 15) hx hb dX2_leastOf_55 (by decide) ?_
      exact ih_15 ls (lv_re (lv_sub hl [2, 3, 4, 1, 0] rfl) (by first | rfl | (simp only [loL, c_6, c_7]; done) | (simp only [loL, c_6, c_7]; rfl) | (simp [loL, c_6, c_7]; done)))
set_option maxHeartbeats 4000000 in
set_option maxRecDepth 100000 in
theorem zX2_findLeast (l : Launch) (D : va_G) (cI cL cE cP : ClassId) (ad : Nat → Nat) (g : Nat → Nat → Int32) (n k : Nat) (us wb tr : Nat → Int32) (pr le : Nat → Int64) (hok : zOk g n k) (sz : Nat) : Met l yX2_findLeast wsX2_findLeast ({ frames := 3, cells := 0, slots := 0, locals := 67 }) (zPw D cI cL cE cP (cws cI cL cE cP ad g n k us wb tr pr le (nI n) (nI k)) sz [.ref (ad 5)]) (zQv D (cws cI cL cE cP ad g n k us wb tr pr le (nI n) (nI k)) sz (cws cI cL cE cP ad g n k us wb tr (PRO wb pr (n)) (LEO us wb pr le (n)) (nI n) (nI k))) 0 0 (va_A (cws cI cL cE cP ad g n k us wb tr pr le (nI n) (nI k)) sz) := by
  refine Met.ofW (cc := cX2_findLeast) (maxL := 3) (ret := none) (by decide) rfl ?_
  intro p e s m args below meth c s₁ B hml hv
  obtain ⟨rfl, hsz, hE, hP, hD0⟩ := hv
  subst hsz
  obtain ⟨A, hAe⟩ : ∃ A, A = va_A (cws cI cL cE cP ad g n k us wb tr pr le (nI n) (nI k)) s.heap.size := ⟨_, rfl⟩
  have hD : va_D A (cws cI cL cE cP ad g n k us wb tr pr le (nI n) (nI k)) := by rw [hAe]; exact hD0.self
  have hA : ∀ q : Nat, s.heap.size ≤ q → A q := fun q h => by rw [hAe]; exact Or.inr h
  have hS : va_S A s.heap s.heap [] := va_S.rf
  have hx := B.exec
  have hb := B.bytes
  have hr := B.returns
  have hts := atoms_spec (ws := wsX2_findLeast) B.pre
  have hown : s.vm.findClass RX2 = some m.cls := findClass_of_methodNamed B.named
  have hlocks := B.notSynchronized
  have hK := hE.1
  have iX2 : ∀ w ∈ wsX20, w ∈ wsX2_findLeast := by decide +kernel
  have hl := lv_entry ([.ref (ad 5)]) (n := 3) (Nat.le_of_ble_eq_true rfl)
  rw [lg_entry_eq]
  generalize (lg_sl ([.ref (ad 5)]) ++ List.replicate (3 - (lg_sl ([.ref (ad 5)])).length) Slot.unset).toArray = ls at hl ⊢
  have hl : lv_has ls 3 [(0, .ref (ad 5))] := hl
  refine lv_iconst (v := 0) hx hb dX2_findLeast_0 (by decide) ?_
  refine lv_istore_n (lv' := [(1, .int 0), (0, .ref (ad 5))]) hx hb dX2_findLeast_1 rfl hl (by decide) rfl (fun ls hl => ?_)
  refine zloopM (nL := 3) (lv := fun i => [(0, .ref (ad 5)), (1, .int (nI (i)))]) (wd := fun i => cws cI cL cE cP ad g n k us wb tr pr (zfl (fun j => dgL (nI j) 8 5) le (i)) (nI n) (nI k)) (n := 32) (lv_re (lv_sub hl [1, 0] rfl) (by first | rfl | (simp only [nI_0]; done) | (simp only [nI_0]; rfl) | (simp [nI_0]; done))) (zP_re hP (by rw [zfl_0])) (zD_re hD (by rw [zfl_0])) hS (fun H locs ls hP hD hS hl => ?_) (fun i hi ih_2 H locs ls hP hD hS hl => ?_)
  · have hl : lv_has ls 3 [(0, .ref (ad 5)), (1, .int (nI (32)))] := hl
    have hP : va_P D vwCl (cws cI cL cE cP ad g n k us wb tr pr (zfl (fun j => dgL (nI j) 8 5) le (32)) (nI n) (nI k)) H := hP
    have hD : va_D A (cws cI cL cE cP ad g n k us wb tr pr (zfl (fun j => dgL (nI j) 8 5) le (32)) (nI n) (nI k)) := hD
    refine lv_iload_n hx hb dX2_findLeast_2 rfl (lv_at hl 1 rfl) ?_
    refine lv_aload_n hx hb dX2_findLeast_3 rfl (lv_at hl 0 rfl) ?_
    refine va_get (D := D) (ci := 2) (v := .ref (ad 10)) (C := RX2) (T := TX2) (N := 7) hx hb hts iX2 hown hK hP 5 cws_5 rfl 4 (by decide) (hts (.fieldLink RX2 25 "CapitalReckoner$Search" "least" "[J") (by decide +kernel)) (fun _ h9 => h9) rfl dX2_findLeast_4 ?_
    refine va_alen (v := nI 32) hx hb hK hP 10 1 cws_10 rfl (by first | rfl | decide) dX2_findLeast_7 ?_
    refine lv_icmp_ge (tgt := 29) hx hb dX2_findLeast_8 (by decide) (fun c_1 => ?_) (fun c_1 => absurd (zle_refl (nI 32)) c_1)
    refine lv_iconst (v := 0) hx hb dX2_findLeast_29 (by decide) ?_
    refine lv_istore_n (lv' := [(1, .int 0), (0, .ref (ad 5))]) hx hb dX2_findLeast_30 rfl hl (by decide) rfl (fun ls hl => ?_)
    refine zloopM (nL := 3) (lv := fun e => [(0, .ref (ad 5)), (1, .int (nI (e)))]) (wd := fun e => cws cI cL cE cP ad g n k us wb tr (PRO wb pr (e)) (LEO us wb pr le (e)) (nI n) (nI k)) (n := n) (lv_re (lv_sub hl [1, 0] rfl) (by first | rfl | (simp only [nI_0]; done) | (simp only [nI_0]; rfl) | (simp [nI_0]; done))) (zP_re hP (by rfl)) (zD_re hD (by rfl)) hS (fun H locs ls hP hD hS hl => ?_) (fun e he ih_31 H locs ls hP hD hS hl => ?_)
    · have hl : lv_has ls 3 [(0, .ref (ad 5)), (1, .int (nI (n)))] := hl
      have hP : va_P D vwCl (cws cI cL cE cP ad g n k us wb tr (PRO wb pr (n)) (LEO us wb pr le (n)) (nI n) (nI k)) H := hP
      have hD : va_D A (cws cI cL cE cP ad g n k us wb tr (PRO wb pr (n)) (LEO us wb pr le (n)) (nI n) (nI k)) := hD
      refine lv_iload_n hx hb dX2_findLeast_31 rfl (lv_at hl 1 rfl) ?_
      refine lv_aload_n hx hb dX2_findLeast_32 rfl (lv_at hl 0 rfl) ?_
      refine va_get (D := D) (ci := 2) (v := .int (nI n)) (C := RX2) (T := TX2) (N := 7) hx hb hts iX2 hown hK hP 5 cws_5 rfl 5 (by decide) (hts (.fieldLink RX2 34 "CapitalReckoner$Search" "takers" "I") (by decide +kernel)) (fun _ h9 => h9) rfl dX2_findLeast_33 ?_
      refine lv_icmp_ge (tgt := 87) hx hb dX2_findLeast_36 (by decide) (fun c_2 => ?_) (fun c_2 => absurd (zle_refl (nI n)) c_2)
      exact zvret hx hb hr hAe (zP_re hP (rfl)) (zD_re hD (rfl)) hS dX2_findLeast_87
    · have hl : lv_has ls 3 [(0, .ref (ad 5)), (1, .int (nI (e)))] := hl
      have hP : va_P D vwCl (cws cI cL cE cP ad g n k us wb tr (PRO wb pr (e)) (LEO us wb pr le (e)) (nI n) (nI k)) H := hP
      have hD : va_D A (cws cI cL cE cP ad g n k us wb tr (PRO wb pr (e)) (LEO us wb pr le (e)) (nI n) (nI k)) := hD
      refine lv_iload_n hx hb dX2_findLeast_31 rfl (lv_at hl 1 rfl) ?_
      refine lv_aload_n hx hb dX2_findLeast_32 rfl (lv_at hl 0 rfl) ?_
      refine va_get (D := D) (ci := 2) (v := .int (nI n)) (C := RX2) (T := TX2) (N := 7) hx hb hts iX2 hown hK hP 5 cws_5 rfl 5 (by decide) (hts (.fieldLink RX2 34 "CapitalReckoner$Search" "takers" "I") (by decide +kernel)) (fun _ h9 => h9) rfl dX2_findLeast_33 ?_
      refine lv_icmp_ge (tgt := 87) hx hb dX2_findLeast_36 (by decide) (fun c_3 => absurd c_3 (nI_ge he (by have := hok.n; omega))) (fun c_3 => ?_)
      refine lv_aload_n hx hb dX2_findLeast_39 rfl (lv_at hl 0 rfl) ?_
      refine lv_iload_n hx hb dX2_findLeast_40 rfl (lv_at hl 1 rfl) ?_
      refine zcallv (va_runV (As := [.int (nI (e))]) (rest := []) ⟨hx, hb, hml, hown, hts⟩ (zX2_fillPrices l D cI cL cE cP ad g n k us wb tr (PRO wb pr (e)) (LEO us wb pr le (e)) (nI n) (nI k) hok (nI (e)) H.size) (cwV 1 hts gX2_findLeast_X2_fillPrices rfl rfl rfl (by decide +kernel) ⟨Nat.le_of_ble_eq_true rfl, Nat.le_of_ble_eq_true rfl⟩) ⟨zPw_blind, va_recv hK hP (ci := 2) (q0 := 5) rfl cws_5, zPw_mk hE hP hD⟩ rfl rfl hl.1 rfl (lv_room (Nat.le_of_ble_eq_true rfl)) dX2_findLeast_41 ⟨Nat.le_of_ble_eq_true rfl, Nat.le_of_ble_eq_true rfl⟩) hD hS hA (fun H locs hP hD hS => ?_)
      have hP : va_P D vwCl (cws cI cL cE cP ad g n k us wb tr (zfl (fun j => prF wb (nI (e)) (nI j)) (PRO wb pr (e)) 32) (LEO us wb pr le (e)) (nI n) (nI k)) H := hP
      have hD : va_D A (cws cI cL cE cP ad g n k us wb tr (zfl (fun j => prF wb (nI (e)) (nI j)) (PRO wb pr (e)) 32) (LEO us wb pr le (e)) (nI n) (nI k)) := hD
      refine lv_aload_n hx hb dX2_findLeast_44 rfl (lv_at hl 0 rfl) ?_
      refine va_get (D := D) (ci := 2) (v := .ref (ad 10)) (C := RX2) (T := TX2) (N := 7) hx hb hts iX2 hown hK hP 5 cws_5 rfl 4 (by decide) (hts (.fieldLink RX2 25 "CapitalReckoner$Search" "least" "[J") (by decide +kernel)) (fun _ h9 => h9) rfl dX2_findLeast_45 ?_
      refine va_alen (v := nI 32) hx hb hK hP 10 1 cws_10 rfl (by first | rfl | decide) dX2_findLeast_48 ?_
      refine lv_iconst (v := 1) hx hb dX2_findLeast_49 (by decide) ?_
      refine lv_isub hx hb dX2_findLeast_50 ?_
      refine lv_istore_n (lv' := [(2, .int ((nI 32) - 1)), (0, .ref (ad 5)), (1, .int (nI (e)))]) hx hb dX2_findLeast_51 rfl hl (by decide) rfl (fun ls hl => ?_)
      refine zloopM (nL := 3) (lv := fun t => [(0, .ref (ad 5)), (1, .int (nI e)), (2, .int (zd (t)))]) (wd := fun t => cws cI cL cE cP ad g n k us wb tr (PRO wb pr (e + 1)) (zdn (LEO us wb pr le (e + 1)) (LEO us wb pr le e) (t)) (nI n) (nI k)) (n := 32) (lv_re (lv_sub hl [1, 2, 0] rfl) (by simp only [zd_0]; rfl)) (zP_re hP (by rw [zdn_0 _ _ (fun S hS => by simp only [LEO]; rw [if_neg (by omega)])]; rfl)) (zD_re hD (by rw [zdn_0 _ _ (fun S hS => by simp only [LEO]; rw [if_neg (by omega)])]; rfl)) hS (fun H locs ls hP hD hS hl => ?_) (fun t ht ih_52 H locs ls hP hD hS hl => ?_)
      · have hl : lv_has ls 3 [(0, .ref (ad 5)), (1, .int (nI e)), (2, .int (zd (32)))] := hl
        have hP : va_P D vwCl (cws cI cL cE cP ad g n k us wb tr (PRO wb pr (e + 1)) (zdn (LEO us wb pr le (e + 1)) (LEO us wb pr le e) (32)) (nI n) (nI k)) H := hP
        have hD : va_D A (cws cI cL cE cP ad g n k us wb tr (PRO wb pr (e + 1)) (zdn (LEO us wb pr le (e + 1)) (LEO us wb pr le e) (32)) (nI n) (nI k)) := hD
        rw [zdn_32] at hP hD
        refine lv_iload_n hx hb dX2_findLeast_52 rfl (lv_at hl 2 rfl) ?_
        refine lv_if_lt (tgt := 81) hx hb dX2_findLeast_53 (by decide) (fun c_6 => ?_) (fun c_6 => absurd (zd_neg) c_6)
        refine lv_iinc (v := nI (e + 1)) (lv' := [(1, .int (nI (e + 1))), (0, .ref (ad 5)), (2, .int (zd (32)))]) hx hb dX2_findLeast_81 hl (k := 1) rfl (zinc _) (by decide) rfl (fun ls hl => ?_)
        refine lv_goto (tgt := 31) hx hb dX2_findLeast_84 (by decide) ?_
        exact ih_31 H locs ls (zP_re hP (by rfl)) (zD_re hD (by rfl)) hS (lv_re (lv_sub hl [1, 0] rfl) (by first | rfl | (simp only [c_1, c_3, c_6]; done) | (simp only [c_1, c_3, c_6]; rfl) | (simp [c_1, c_3, c_6]; done)))
      · have hl : lv_has ls 3 [(0, .ref (ad 5)), (1, .int (nI e)), (2, .int (zd (t)))] := hl
        have hP : va_P D vwCl (cws cI cL cE cP ad g n k us wb tr (PRO wb pr (e + 1)) (zdn (LEO us wb pr le (e + 1)) (LEO us wb pr le e) (t)) (nI n) (nI k)) H := hP
        have hD : va_D A (cws cI cL cE cP ad g n k us wb tr (PRO wb pr (e + 1)) (zdn (LEO us wb pr le (e + 1)) (LEO us wb pr le e) (t)) (nI n) (nI k)) := hD
        refine lv_iload_n hx hb dX2_findLeast_52 rfl (lv_at hl 2 rfl) ?_
        refine lv_if_lt (tgt := 81) hx hb dX2_findLeast_53 (by decide) (fun c_7 => absurd c_7 (zd_pos ht)) (fun c_7 => ?_)
        refine lv_aload_n hx hb dX2_findLeast_56 rfl (lv_at hl 0 rfl) ?_
        refine va_get (D := D) (ci := 2) (v := .ref (ad 10)) (C := RX2) (T := TX2) (N := 7) hx hb hts iX2 hown hK hP 5 cws_5 rfl 4 (by decide) (hts (.fieldLink RX2 25 "CapitalReckoner$Search" "least" "[J") (by decide +kernel)) (fun _ h9 => h9) rfl dX2_findLeast_57 ?_
        refine lv_iload_n hx hb dX2_findLeast_60 rfl (lv_at hl 2 rfl) ?_
        refine lv_aload_n hx hb dX2_findLeast_61 rfl (lv_at hl 0 rfl) ?_
        rw [show zd t = nI (31 - t) from zd_nI ht] at hl ⊢
        refine lv_iload_n hx hb dX2_findLeast_62 rfl (lv_at hl 2 rfl) ?_
        refine lv_aload_n hx hb dX2_findLeast_63 rfl (lv_at hl 0 rfl) ?_
        refine va_get (D := D) (ci := 2) (v := .ref (ad 6)) (C := RX2) (T := TX2) (N := 7) hx hb hts iX2 hown hK hP 5 cws_5 rfl 0 (by decide) (hts (.fieldLink RX2 11 "CapitalReckoner$Search" "usable" "[I") (by decide +kernel)) (fun _ h9 => h9) rfl dX2_findLeast_64 ?_
        refine lv_iload_n hx hb dX2_findLeast_67 rfl (lv_at hl 1 rfl) ?_
        refine vp_callSi (va_Run.run (va_runSN (As := [.ref (ad 6), .int (nI e)]) (rest := [.int (nI (31 - t)), .ref (ad 5), .int (nI (31 - t)), .ref (ad 10)]) ⟨hx, hb, hml, hown, hts⟩ (zX3_at l D cI cL cE cP (cws cI cL cE cP ad g n k us wb tr (PRO wb pr (e + 1)) (zdn (LEO us wb pr le (e + 1)) (LEO us wb pr le e) (t)) (nI n) (nI k)) 6 (ad 6) 8 (us) (by decide) cws_6 (nI e)) ⟨va_cnB 2 hts gX2_findLeast_X3_at_n45 rfl rfl rfl (hE.2 (.methodLinkNest RX2 45 yX3_at RX3) (List.mem_of_getElem? (i := 11) rfl)) (hts (.initialized RX3) (by decide +kernel)) (by decide +kernel) ⟨Nat.le_of_ble_eq_true rfl, Nat.le_of_ble_eq_true rfl⟩, (hts (.static yX3_at) (by decide +kernel)), trivial⟩ ⟨zPr_blind, zPr_mk hE hP⟩ rfl rfl hl.1 rfl (lv_room (Nat.le_of_ble_eq_true rfl)) dX2_findLeast_68 ⟨Nat.le_of_ble_eq_true rfl, Nat.le_of_ble_eq_true rfl⟩)) (fun r_8 e_9 => ?_)
        obtain rfl := e_9
        refine vp_callSl (va_Run.run (va_runV (As := [.int (nI (31 - t)), .int (zat 8 us (nI e))]) (rest := [.int (nI (31 - t)), .ref (ad 10)]) ⟨hx, hb, hml, hown, hts⟩ (zX2_leastOf l D cI cL cE cP ad g n k us wb tr (PRO wb pr (e + 1)) (zdn (LEO us wb pr le (e + 1)) (LEO us wb pr le e) (t)) (nI n) (nI k) hok (31 - t) (by omega) (zat 8 us (nI e))) (cwV 2 hts gX2_findLeast_X2_leastOf rfl rfl rfl (by decide +kernel) ⟨Nat.le_of_ble_eq_true rfl, Nat.le_of_ble_eq_true rfl⟩) ⟨zPr_blind, va_recv hK hP (ci := 2) (q0 := 5) rfl cws_5, zPr_mk hE hP⟩ rfl rfl hl.1 rfl (lv_room (Nat.le_of_ble_eq_true rfl)) dX2_findLeast_71 ⟨Nat.le_of_ble_eq_true rfl, Nat.le_of_ble_eq_true rfl⟩)) (fun r_10 e_11 => ?_)
        obtain rfl := e_11
        refine zlast (f2 := zdn (LEO us wb pr le (e + 1)) (LEO us wb pr le e) (t + 1)) hx hb hK hP hD hS 10 1 cws_10 rfl (vp_in_nI (by omega) (by decide)) (by rw [nI_clamp (by omega)]; exact zdn_u _ _ ht (LEO_step ht)) dX2_findLeast_74 (fun H locs hP hD hS => ?_)
        have hP : va_P D vwCl (cws cI cL cE cP ad g n k us wb tr (PRO wb pr (e + 1)) (zdn (LEO us wb pr le (e + 1)) (LEO us wb pr le e) (t + 1)) (nI n) (nI k)) H := zP_re hP (cws_s10).symm
        have hD : va_D A (cws cI cL cE cP ad g n k us wb tr (PRO wb pr (e + 1)) (zdn (LEO us wb pr le (e + 1)) (LEO us wb pr le e) (t + 1)) (nI n) (nI k)) := zD_re hD (cws_s10).symm
        refine lv_iinc (v := zd (t + 1)) (lv' := [(2, .int (zd (t + 1))), (0, .ref (ad 5)), (1, .int (nI e))]) hx hb dX2_findLeast_75 hl (k := 2) rfl (by rw [← zd_nI ht]; exact zd_dec t) (by decide) rfl (fun ls hl => ?_)
        refine lv_goto (tgt := 52) hx hb dX2_findLeast_78 (by decide) ?_
        exact ih_52 H locs ls (zP_re hP (by rfl)) (zD_re hD (by rfl)) hS (lv_re (lv_sub hl [1, 2, 0] rfl) (by first | rfl | (simp only [c_1, c_3, c_7]; done) | (simp only [c_1, c_3, c_7]; rfl) | (simp [c_1, c_3, c_7]; done)))
  · have hl : lv_has ls 3 [(0, .ref (ad 5)), (1, .int (nI (i)))] := hl
    have hP : va_P D vwCl (cws cI cL cE cP ad g n k us wb tr pr (zfl (fun j => dgL (nI j) 8 5) le (i)) (nI n) (nI k)) H := hP
    have hD : va_D A (cws cI cL cE cP ad g n k us wb tr pr (zfl (fun j => dgL (nI j) 8 5) le (i)) (nI n) (nI k)) := hD
    refine lv_iload_n hx hb dX2_findLeast_2 rfl (lv_at hl 1 rfl) ?_
    refine lv_aload_n hx hb dX2_findLeast_3 rfl (lv_at hl 0 rfl) ?_
    refine va_get (D := D) (ci := 2) (v := .ref (ad 10)) (C := RX2) (T := TX2) (N := 7) hx hb hts iX2 hown hK hP 5 cws_5 rfl 4 (by decide) (hts (.fieldLink RX2 25 "CapitalReckoner$Search" "least" "[J") (by decide +kernel)) (fun _ h9 => h9) rfl dX2_findLeast_4 ?_
    refine va_alen (v := nI 32) hx hb hK hP 10 1 cws_10 rfl (by first | rfl | decide) dX2_findLeast_7 ?_
    refine lv_icmp_ge (tgt := 29) hx hb dX2_findLeast_8 (by decide) (fun c_12 => absurd c_12 (nI_ge hi (by decide))) (fun c_12 => ?_)
    refine lv_aload_n hx hb dX2_findLeast_11 rfl (lv_at hl 0 rfl) ?_
    refine va_get (D := D) (ci := 2) (v := .ref (ad 10)) (C := RX2) (T := TX2) (N := 7) hx hb hts iX2 hown hK hP 5 cws_5 rfl 4 (by decide) (hts (.fieldLink RX2 25 "CapitalReckoner$Search" "least" "[J") (by decide +kernel)) (fun _ h9 => h9) rfl dX2_findLeast_12 ?_
    refine lv_iload_n hx hb dX2_findLeast_15 rfl (lv_at hl 1 rfl) ?_
    refine lv_iload_n hx hb dX2_findLeast_16 rfl (lv_at hl 1 rfl) ?_
    refine lv_bipush (v := 8) hx hb dX2_findLeast_17 (by decide) ?_
    refine vp_callSl (va_Run.run (va_runS (As := [.int (nI (i)), .int 8]) (rest := [.int (nI (i)), .ref (ad 10)]) ⟨hx, hb, hml, hown, hts⟩ (zX2_digitsOf l D cI cL cE cP (cws cI cL cE cP ad g n k us wb tr pr (zfl (fun j => dgL (nI j) 8 5) le (i)) (nI n) (nI k)) (nI (i)) (8)) (va_cwS 2 hts gX2_findLeast_X2_digitsOf rfl rfl rfl (by decide +kernel) ⟨Nat.le_of_ble_eq_true rfl, Nat.le_of_ble_eq_true rfl⟩) ⟨zPr_blind, zPr_mk hE hP⟩ rfl rfl hl.1 rfl (lv_room (Nat.le_of_ble_eq_true rfl)) dX2_findLeast_19 ⟨Nat.le_of_ble_eq_true rfl, Nat.le_of_ble_eq_true rfl⟩)) (fun r_13 e_14 => ?_)
    obtain rfl := e_14
    refine zlast (f2 := zfl (fun j => dgL (nI j) 8 5) le (i + 1)) hx hb hK hP hD hS 10 1 cws_10 rfl (vp_in_nI hi (by decide)) (by rw [nI_clamp (by omega)]; exact zfl_uL (fun j => dgL (nI j) 8 5) le i) dX2_findLeast_22 (fun H locs hP hD hS => ?_)
    have hP : va_P D vwCl (cws cI cL cE cP ad g n k us wb tr pr (zfl (fun j => dgL (nI j) 8 5) le (i + 1)) (nI n) (nI k)) H := zP_re hP (cws_s10).symm
    have hD : va_D A (cws cI cL cE cP ad g n k us wb tr pr (zfl (fun j => dgL (nI j) 8 5) le (i + 1)) (nI n) (nI k)) := zD_re hD (cws_s10).symm
    refine lv_iinc (v := nI ((i) + 1)) (lv' := [(1, .int (nI ((i) + 1))), (0, .ref (ad 5))]) hx hb dX2_findLeast_23 hl (k := 1) rfl (zinc _) (by decide) rfl (fun ls hl => ?_)
    refine lv_goto (tgt := 2) hx hb dX2_findLeast_26 (by decide) ?_
    exact ih_2 H locs ls (zP_re hP (by first | rfl | (simp only [c_12]; done) | (simp only [c_12]; rfl) | (simp [c_12]; done))) (zD_re hD (by first | rfl | (simp only [c_12]; done) | (simp only [c_12]; rfl) | (simp [c_12]; done))) hS (lv_re (lv_sub hl [1, 0] rfl) (by first | rfl | (simp only [c_12]; done) | (simp only [c_12]; rfl) | (simp [c_12]; done)))
set_option maxHeartbeats 4000000 in
set_option maxRecDepth 100000 in
theorem zX2_allGifts (l : Launch) (D : va_G) (cI cL cE cP : ClassId) (ad : Nat → Nat) (g : Nat → Nat → Int32) (n k : Nat) (us wb tr : Nat → Int32) (pr le : Nat → Int64) (hok : zOk g n k) : Met l yX2_allGifts wsX2_allGifts ({ frames := 0, cells := 0, slots := 0, locals := 0 }) (zPr D cI cL cE cP (cws cI cL cE cP ad g n k us wb tr pr le (nI n) (nI k)) [.ref (ad 5)]) (vp_Si (fun r : Int32 => r = ((1 : Int32) <<< (nI k &&& 31)) - 1)) 0 0 (fun _ => False) := by
  refine Met.ofW (cc := cX2_allGifts) (maxL := 1) (ret := (some .int)) (by decide) rfl ?_
  intro p e s m args below meth c s₁ B hml hv
  obtain ⟨rfl, hE, hP⟩ := hv
  have hx := B.exec
  have hb := B.bytes
  have hr := B.returns
  have hts := atoms_spec (ws := wsX2_allGifts) B.pre
  have hown : s.vm.findClass RX2 = some m.cls := findClass_of_methodNamed B.named
  have hlocks := B.notSynchronized
  have hK := hE.1
  have iX2 : ∀ w ∈ wsX20, w ∈ wsX2_allGifts := by decide +kernel
  have hl := lv_entry ([.ref (ad 5)]) (n := 1) (Nat.le_of_ble_eq_true rfl)
  rw [lg_entry_eq]
  generalize (lg_sl ([.ref (ad 5)]) ++ List.replicate (1 - (lg_sl ([.ref (ad 5)])).length) Slot.unset).toArray = ls at hl ⊢
  have hl : lv_has ls 1 [(0, .ref (ad 5))] := hl
  refine lv_iconst (v := 1) hx hb dX2_allGifts_0 (by decide) ?_
  refine lv_aload_n hx hb dX2_allGifts_1 rfl (lv_at hl 0 rfl) ?_
  refine va_get (D := D) (ci := 2) (v := .int (nI k)) (C := RX2) (T := TX2) (N := 7) hx hb hts iX2 hown hK hP 5 cws_5 rfl 6 (by decide) (hts (.fieldLink RX2 38 "CapitalReckoner$Search" "gifts" "I") (by decide +kernel)) (fun _ h9 => h9) rfl dX2_allGifts_2 ?_
  refine lv_ishl hx hb dX2_allGifts_5 ?_
  refine lv_iconst (v := 1) hx hb dX2_allGifts_6 (by decide) ?_
  refine lv_isub hx hb dX2_allGifts_7 ?_
  exact W.iret (v := ((1 : Int32) <<< ((nI k) &&& 31)) - 1) hx hb hr (fun t ht hW => ⟨_, rfl, (by first | rfl | (simp only []; done) | (simp only []; rfl) | (simp []; done)), ht⟩) (fun _ h => nomatch h) dX2_allGifts_8
set_option maxHeartbeats 4000000 in
set_option maxRecDepth 100000 in
theorem zX2_bestKey (l : Launch) (D : va_G) (cI cL cE cP : ClassId) (ad : Nat → Nat) (g : Nat → Nat → Int32) (n k : Nat) (us wb tr : Nat → Int32) (pr le : Nat → Int64) (hok : zOk g n k) : Met l yX2_bestKey wsX2_bestKey ({ frames := 1, cells := 0, slots := 0, locals := 21 }) (zPr D cI cL cE cP (cws cI cL cE cP ad g n k us wb tr pr le (nI n) (nI k)) [.ref (ad 5)]) (vp_Sl (fun r : Int64 => r = bkE le k)) 0 0 (fun _ => False) := by
  refine Met.ofW (cc := cX2_bestKey) (maxL := 1) (ret := (some .long)) (by decide) rfl ?_
  intro p e s m args below meth c s₁ B hml hv
  obtain ⟨rfl, hE, hP⟩ := hv
  have hx := B.exec
  have hb := B.bytes
  have hr := B.returns
  have hts := atoms_spec (ws := wsX2_bestKey) B.pre
  have hown : s.vm.findClass RX2 = some m.cls := findClass_of_methodNamed B.named
  have hlocks := B.notSynchronized
  have hK := hE.1
  have hl := lv_entry ([.ref (ad 5)]) (n := 1) (Nat.le_of_ble_eq_true rfl)
  rw [lg_entry_eq]
  generalize (lg_sl ([.ref (ad 5)]) ++ List.replicate (1 - (lg_sl ([.ref (ad 5)])).length) Slot.unset).toArray = ls at hl ⊢
  have hl : lv_has ls 1 [(0, .ref (ad 5))] := hl
  refine lv_aload_n hx hb dX2_bestKey_0 rfl (lv_at hl 0 rfl) ?_
  refine lv_aload_n hx hb dX2_bestKey_1 rfl (lv_at hl 0 rfl) ?_
  refine vp_callSi (va_Run.run (va_runV (As := []) (rest := [.ref (ad 5)]) ⟨hx, hb, hml, hown, hts⟩ (zX2_allGifts l D cI cL cE cP ad g n k us wb tr pr le hok ) (cwV 0 hts gX2_bestKey_X2_allGifts rfl rfl rfl (by decide +kernel) ⟨Nat.le_of_ble_eq_true rfl, Nat.le_of_ble_eq_true rfl⟩) ⟨zPr_blind, va_recv hK hP (ci := 2) (q0 := 5) rfl cws_5, zPr_mk hE hP⟩ rfl rfl hl.1 rfl (lv_room (Nat.le_of_ble_eq_true rfl)) dX2_bestKey_2 ⟨Nat.le_of_ble_eq_true rfl, Nat.le_of_ble_eq_true rfl⟩)) (fun r_1 e_2 => ?_)
  obtain rfl := e_2
  refine vp_callSl (va_Run.run (va_runV (As := [.int (((1 : Int32) <<< (nI k &&& 31)) - 1)]) (rest := []) ⟨hx, hb, hml, hown, hts⟩ (zX2_leastKey l D cI cL cE cP ad g n k us wb tr pr le (nI n) (nI k) hok (((1 : Int32) <<< (nI k &&& 31)) - 1)) (cwV 1 hts gX2_bestKey_X2_leastKey rfl rfl rfl (by decide +kernel) ⟨Nat.le_of_ble_eq_true rfl, Nat.le_of_ble_eq_true rfl⟩) ⟨zPr_blind, va_recv hK hP (ci := 2) (q0 := 5) rfl cws_5, zPr_mk hE hP⟩ rfl rfl hl.1 rfl (lv_room (Nat.le_of_ble_eq_true rfl)) dX2_bestKey_5 ⟨Nat.le_of_ble_eq_true rfl, Nat.le_of_ble_eq_true rfl⟩)) (fun r_3 e_4 => ?_)
  obtain rfl := e_4
  exact W.lret (v := zatL 32 le (((1 : Int32) <<< (nI k &&& 31)) - 1)) hx hb hr (fun t ht hW => ⟨_, rfl, (by first | rfl | (simp only [bkE]; done) | (simp only [bkE]; rfl) | (simp [bkE]; done)), ht⟩) (fun _ h => nomatch h) dX2_bestKey_8
set_option maxHeartbeats 4000000 in
set_option maxRecDepth 100000 in
theorem zX2_bestWhole (l : Launch) (D : va_G) (cI cL cE cP : ClassId) (ad : Nat → Nat) (g : Nat → Nat → Int32) (n k : Nat) (us wb tr : Nat → Int32) (pr le : Nat → Int64) (hok : zOk g n k) : Met l yX2_bestWhole wsX2_bestWhole ({ frames := 2, cells := 0, slots := 0, locals := 41 }) (zPr D cI cL cE cP (cws cI cL cE cP ad g n k us wb tr pr le (nI n) (nI k)) [.ref (ad 5)]) (vp_Si (fun r : Int32 => r = bwE le k)) 0 0 (fun _ => False) := by
  refine Met.ofW (cc := cX2_bestWhole) (maxL := 1) (ret := (some .int)) (by decide) rfl ?_
  intro p e s m args below meth c s₁ B hml hv
  obtain ⟨rfl, hE, hP⟩ := hv
  have hx := B.exec
  have hb := B.bytes
  have hr := B.returns
  have hts := atoms_spec (ws := wsX2_bestWhole) B.pre
  have hown : s.vm.findClass RX2 = some m.cls := findClass_of_methodNamed B.named
  have hlocks := B.notSynchronized
  have hK := hE.1
  have hl := lv_entry ([.ref (ad 5)]) (n := 1) (Nat.le_of_ble_eq_true rfl)
  rw [lg_entry_eq]
  generalize (lg_sl ([.ref (ad 5)]) ++ List.replicate (1 - (lg_sl ([.ref (ad 5)])).length) Slot.unset).toArray = ls at hl ⊢
  have hl : lv_has ls 1 [(0, .ref (ad 5))] := hl
  refine lv_aload_n hx hb dX2_bestWhole_0 rfl (lv_at hl 0 rfl) ?_
  refine vp_callSl (va_Run.run (va_runV (As := []) (rest := []) ⟨hx, hb, hml, hown, hts⟩ (zX2_bestKey l D cI cL cE cP ad g n k us wb tr pr le hok ) (cwV 0 hts gX2_bestWhole_X2_bestKey rfl rfl rfl (by decide +kernel) ⟨Nat.le_of_ble_eq_true rfl, Nat.le_of_ble_eq_true rfl⟩) ⟨zPr_blind, va_recv hK hP (ci := 2) (q0 := 5) rfl cws_5, zPr_mk hE hP⟩ rfl rfl hl.1 rfl (lv_room (Nat.le_of_ble_eq_true rfl)) dX2_bestWhole_1 ⟨Nat.le_of_ble_eq_true rfl, Nat.le_of_ble_eq_true rfl⟩)) (fun r_1 e_2 => ?_)
  obtain rfl := e_2
  refine lv_bipush (v := 20) hx hb dX2_bestWhole_4 (by decide) ?_
  refine lv_lshr hx hb dX2_bestWhole_6 rfl ?_
  refine lv_l2i hx hb dX2_bestWhole_7 rfl ?_
  exact W.iret (v := ((bkE le k) >>> (((20 : Int32)).toInt64 &&& 63)).toInt32) hx hb hr (fun t ht hW => ⟨_, rfl, (by first | rfl | (simp only [bwE]; done) | (simp only [bwE]; rfl) | (simp [bwE]; done)), ht⟩) (fun _ h => nomatch h) dX2_bestWhole_8
set_option maxHeartbeats 4000000 in
set_option maxRecDepth 100000 in
theorem zX2_wholeWithout (l : Launch) (D : va_G) (cI cL cE cP : ClassId) (ad : Nat → Nat) (g : Nat → Nat → Int32) (n k : Nat) (us wb tr : Nat → Int32) (pr le : Nat → Int64) (hok : zOk g n k) (p0 : Int32) : Met l yX2_wholeWithout wsX2_wholeWithout ({ frames := 1, cells := 0, slots := 0, locals := 21 }) (zPr D cI cL cE cP (cws cI cL cE cP ad g n k us wb tr pr le (nI n) (nI k)) [.ref (ad 5), .int p0]) (vp_Si (fun r : Int32 => r = woE le k p0)) 0 0 (fun _ => False) := by
  refine Met.ofW (cc := cX2_wholeWithout) (maxL := 2) (ret := (some .int)) (by decide) rfl ?_
  intro p e s m args below meth c s₁ B hml hv
  obtain ⟨rfl, hE, hP⟩ := hv
  have hx := B.exec
  have hb := B.bytes
  have hr := B.returns
  have hts := atoms_spec (ws := wsX2_wholeWithout) B.pre
  have hown : s.vm.findClass RX2 = some m.cls := findClass_of_methodNamed B.named
  have hlocks := B.notSynchronized
  have hK := hE.1
  have hl := lv_entry ([.ref (ad 5), .int p0]) (n := 2) (Nat.le_of_ble_eq_true rfl)
  rw [lg_entry_eq]
  generalize (lg_sl ([.ref (ad 5), .int p0]) ++ List.replicate (2 - (lg_sl ([.ref (ad 5), .int p0])).length) Slot.unset).toArray = ls at hl ⊢
  have hl : lv_has ls 2 [(0, .ref (ad 5)), (1, .int p0)] := hl
  refine lv_aload_n hx hb dX2_wholeWithout_0 rfl (lv_at hl 0 rfl) ?_
  refine lv_aload_n hx hb dX2_wholeWithout_1 rfl (lv_at hl 0 rfl) ?_
  refine vp_callSi (va_Run.run (va_runV (As := []) (rest := [.ref (ad 5)]) ⟨hx, hb, hml, hown, hts⟩ (zX2_allGifts l D cI cL cE cP ad g n k us wb tr pr le hok ) (cwV 0 hts gX2_wholeWithout_X2_allGifts rfl rfl rfl (by decide +kernel) ⟨Nat.le_of_ble_eq_true rfl, Nat.le_of_ble_eq_true rfl⟩) ⟨zPr_blind, va_recv hK hP (ci := 2) (q0 := 5) rfl cws_5, zPr_mk hE hP⟩ rfl rfl hl.1 rfl (lv_room (Nat.le_of_ble_eq_true rfl)) dX2_wholeWithout_2 ⟨Nat.le_of_ble_eq_true rfl, Nat.le_of_ble_eq_true rfl⟩)) (fun r_1 e_2 => ?_)
  obtain rfl := e_2
  refine lv_iconst (v := 1) hx hb dX2_wholeWithout_5 (by decide) ?_
  refine lv_iload_n hx hb dX2_wholeWithout_6 rfl (lv_at hl 1 rfl) ?_
  refine lv_ishl hx hb dX2_wholeWithout_7 ?_
  refine lv_iconst (v := (-1)) hx hb dX2_wholeWithout_8 (by decide) ?_
  refine lv_ixor hx hb dX2_wholeWithout_9 ?_
  refine lv_iand hx hb dX2_wholeWithout_10 ?_
  refine vp_callSl (va_Run.run (va_runV (As := [.int ((((1 : Int32) <<< (nI k &&& 31)) - 1) &&& (((1 : Int32) <<< (p0 &&& 31)) ^^^ (-1)))]) (rest := []) ⟨hx, hb, hml, hown, hts⟩ (zX2_leastKey l D cI cL cE cP ad g n k us wb tr pr le (nI n) (nI k) hok ((((1 : Int32) <<< (nI k &&& 31)) - 1) &&& (((1 : Int32) <<< (p0 &&& 31)) ^^^ (-1)))) (cwV 1 hts gX2_wholeWithout_X2_leastKey rfl rfl rfl (by decide +kernel) ⟨Nat.le_of_ble_eq_true rfl, Nat.le_of_ble_eq_true rfl⟩) ⟨zPr_blind, va_recv hK hP (ci := 2) (q0 := 5) rfl cws_5, zPr_mk hE hP⟩ rfl rfl hl.1 rfl (lv_room (Nat.le_of_ble_eq_true rfl)) dX2_wholeWithout_11 ⟨Nat.le_of_ble_eq_true rfl, Nat.le_of_ble_eq_true rfl⟩)) (fun r_3 e_4 => ?_)
  obtain rfl := e_4
  refine lv_bipush (v := 20) hx hb dX2_wholeWithout_14 (by decide) ?_
  refine lv_lshr hx hb dX2_wholeWithout_16 rfl ?_
  refine lv_l2i hx hb dX2_wholeWithout_17 rfl ?_
  exact W.iret (v := ((zatL 32 le ((((1 : Int32) <<< (nI k &&& 31)) - 1) &&& (((1 : Int32) <<< (p0 &&& 31)) ^^^ (-1)))) >>> (((20 : Int32)).toInt64 &&& 63)).toInt32) hx hb hr (fun t ht hW => ⟨_, rfl, (by first | rfl | (simp only [woE]; done) | (simp only [woE]; rfl) | (simp [woE]; done)), ht⟩) (fun _ h => nomatch h) dX2_wholeWithout_18
set_option maxHeartbeats 4000000 in
set_option maxRecDepth 100000 in
theorem zX2_takerOf (l : Launch) (D : va_G) (cI cL cE cP : ClassId) (ad : Nat → Nat) (g : Nat → Nat → Int32) (n k : Nat) (us wb tr : Nat → Int32) (pr le : Nat → Int64) (hok : zOk g n k) (p0 : Int32) : Met l yX2_takerOf wsX2_takerOf ({ frames := 2, cells := 0, slots := 0, locals := 41 }) (zPr D cI cL cE cP (cws cI cL cE cP ad g n k us wb tr pr le (nI n) (nI k)) [.ref (ad 5), .int p0]) (vp_Si (fun r : Int32 => r = tkE le k p0)) 0 0 (fun _ => False) := by
  refine Met.ofW (cc := cX2_takerOf) (maxL := 3) (ret := (some .int)) (by decide) rfl ?_
  intro p e s m args below meth c s₁ B hml hv
  obtain ⟨rfl, hE, hP⟩ := hv
  have hx := B.exec
  have hb := B.bytes
  have hr := B.returns
  have hts := atoms_spec (ws := wsX2_takerOf) B.pre
  have hown : s.vm.findClass RX2 = some m.cls := findClass_of_methodNamed B.named
  have hlocks := B.notSynchronized
  have hK := hE.1
  have hl := lv_entry ([.ref (ad 5), .int p0]) (n := 3) (Nat.le_of_ble_eq_true rfl)
  rw [lg_entry_eq]
  generalize (lg_sl ([.ref (ad 5), .int p0]) ++ List.replicate (3 - (lg_sl ([.ref (ad 5), .int p0])).length) Slot.unset).toArray = ls at hl ⊢
  have hl : lv_has ls 3 [(0, .ref (ad 5)), (1, .int p0)] := hl
  refine lv_aload_n hx hb dX2_takerOf_0 rfl (lv_at hl 0 rfl) ?_
  refine vp_callSl (va_Run.run (va_runV (As := []) (rest := []) ⟨hx, hb, hml, hown, hts⟩ (zX2_bestKey l D cI cL cE cP ad g n k us wb tr pr le hok ) (cwV 0 hts gX2_takerOf_X2_bestKey rfl rfl rfl (by decide +kernel) ⟨Nat.le_of_ble_eq_true rfl, Nat.le_of_ble_eq_true rfl⟩) ⟨zPr_blind, va_recv hK hP (ci := 2) (q0 := 5) rfl cws_5, zPr_mk hE hP⟩ rfl rfl hl.1 rfl (lv_room (Nat.le_of_ble_eq_true rfl)) dX2_takerOf_1 ⟨Nat.le_of_ble_eq_true rfl, Nat.le_of_ble_eq_true rfl⟩)) (fun r_1 e_2 => ?_)
  obtain rfl := e_2
  refine lv_iload_n hx hb dX2_takerOf_4 rfl (lv_at hl 1 rfl) ?_
  refine vp_callSi (va_Run.run (va_runS (As := [.int p0]) (rest := [.long (bkE le k)]) ⟨hx, hb, hml, hown, hts⟩ (zX2_digitShift l D cI cL cE cP (cws cI cL cE cP ad g n k us wb tr pr le (nI n) (nI k)) p0) (va_cwS 1 hts gX2_takerOf_X2_digitShift rfl rfl rfl (by decide +kernel) ⟨Nat.le_of_ble_eq_true rfl, Nat.le_of_ble_eq_true rfl⟩) ⟨zPr_blind, zPr_mk hE hP⟩ rfl rfl hl.1 rfl (lv_room (Nat.le_of_ble_eq_true rfl)) dX2_takerOf_5 ⟨Nat.le_of_ble_eq_true rfl, Nat.le_of_ble_eq_true rfl⟩)) (fun r_3 e_4 => ?_)
  obtain rfl := e_4
  refine lv_lshr hx hb dX2_takerOf_8 rfl ?_
  refine lv_l2i hx hb dX2_takerOf_9 rfl ?_
  refine lv_bipush (v := 15) hx hb dX2_takerOf_10 (by decide) ?_
  refine lv_iand hx hb dX2_takerOf_12 ?_
  refine lv_istore_n (lv' := [(2, .int ((((bkE le k) >>> ((4 * (4 - p0)).toInt64 &&& 63)).toInt32) &&& 15)), (0, .ref (ad 5)), (1, .int p0)]) hx hb dX2_takerOf_13 rfl hl (by decide) rfl (fun ls hl => ?_)
  refine lv_iload_n hx hb dX2_takerOf_14 rfl (lv_at hl 0 rfl) ?_
  refine lv_bipush (v := 8) hx hb dX2_takerOf_15 (by decide) ?_
  refine lv_icmp_ne (tgt := 24) hx hb dX2_takerOf_17 (by decide) (fun c_5 => ?_) (fun c_5 => ?_)
  · refine lv_iload_n hx hb dX2_takerOf_24 rfl (lv_at hl 0 rfl) ?_
    exact W.iret (v := (((bkE le k) >>> ((4 * (4 - p0)).toInt64 &&& 63)).toInt32) &&& 15) hx hb hr (fun t ht hW => ⟨_, rfl, (by first | rfl | (simp only [tkE, c_5]; done) | (simp only [tkE, c_5]; rfl) | (simp [tkE, c_5]; done)), ht⟩) (fun _ h => nomatch h) dX2_takerOf_25
  · refine lv_iconst (v := (-1)) hx hb dX2_takerOf_20 (by decide) ?_
    refine lv_goto (tgt := 25) hx hb dX2_takerOf_21 (by decide) ?_
    exact W.iret (v := -1) hx hb hr (fun t ht hW => ⟨_, rfl, (by first | rfl | (simp only [tkE, c_5]; done) | (simp only [tkE, c_5]; rfl) | (simp [tkE, c_5]; done)), ht⟩) (fun _ h => nomatch h) dX2_takerOf_25
set_option maxHeartbeats 4000000 in
set_option maxRecDepth 100000 in
theorem zX2_givenSet (l : Launch) (D : va_G) (cI cL cE cP : ClassId) (ad : Nat → Nat) (g : Nat → Nat → Int32) (n k : Nat) (us wb tr : Nat → Int32) (pr le : Nat → Int64) (hok : zOk g n k) (e0 : Int32) : Met l yX2_givenSet wsX2_givenSet ({ frames := 3, cells := 0, slots := 0, locals := 63 }) (zPr D cI cL cE cP (cws cI cL cE cP ad g n k us wb tr pr le (nI n) (nI k)) [.ref (ad 5), .int e0]) (vp_Si (fun r : Int32 => r = gsL le k e0 k)) 0 0 (fun _ => False) := by
  refine Met.ofW (cc := cX2_givenSet) (maxL := 4) (ret := (some .int)) (by decide) rfl ?_
  intro p e s m args below meth c s₁ B hml hv
  obtain ⟨rfl, hE, hP⟩ := hv
  have hx := B.exec
  have hb := B.bytes
  have hr := B.returns
  have hts := atoms_spec (ws := wsX2_givenSet) B.pre
  have hown : s.vm.findClass RX2 = some m.cls := findClass_of_methodNamed B.named
  have hlocks := B.notSynchronized
  have hK := hE.1
  have iX2 : ∀ w ∈ wsX20, w ∈ wsX2_givenSet := by decide +kernel
  have hl := lv_entry ([.ref (ad 5), .int e0]) (n := 4) (Nat.le_of_ble_eq_true rfl)
  rw [lg_entry_eq]
  generalize (lg_sl ([.ref (ad 5), .int e0]) ++ List.replicate (4 - (lg_sl ([.ref (ad 5), .int e0])).length) Slot.unset).toArray = ls at hl ⊢
  have hl : lv_has ls 4 [(0, .ref (ad 5)), (1, .int e0)] := hl
  refine lv_iconst (v := 0) hx hb dX2_givenSet_0 (by decide) ?_
  refine lv_istore_n (lv' := [(2, .int 0), (0, .ref (ad 5)), (1, .int e0)]) hx hb dX2_givenSet_1 rfl hl (by decide) rfl (fun ls hl => ?_)
  refine lv_iconst (v := 0) hx hb dX2_givenSet_2 (by decide) ?_
  refine lv_istore_n (lv' := [(3, .int 0), (2, .int 0), (0, .ref (ad 5)), (1, .int e0)]) hx hb dX2_givenSet_3 rfl hl (by decide) rfl (fun ls hl => ?_)
  refine zloop (nL := 4) (lv := fun i => [(0, .ref (ad 5)), (1, .int e0), (2, .int (gsL le k e0 (i))), (3, .int (nI (i)))]) (n := k) (lv_re (lv_sub hl [2, 3, 1, 0] rfl) (by first | rfl | (simp only [gsL, nI_0]; done) | (simp only [gsL, nI_0]; rfl) | (simp [gsL, nI_0]; done))) (fun ls hl => ?_) (fun i hi ih_4 ls hl => ?_)
  · have hl : lv_has ls 4 [(0, .ref (ad 5)), (1, .int e0), (2, .int (gsL le k e0 (k))), (3, .int (nI (k)))] := hl
    refine lv_iload_n hx hb dX2_givenSet_4 rfl (lv_at hl 3 rfl) ?_
    refine lv_aload_n hx hb dX2_givenSet_5 rfl (lv_at hl 0 rfl) ?_
    refine va_get (D := D) (ci := 2) (v := .int (nI k)) (C := RX2) (T := TX2) (N := 7) hx hb hts iX2 hown hK hP 5 cws_5 rfl 6 (by decide) (hts (.fieldLink RX2 38 "CapitalReckoner$Search" "gifts" "I") (by decide +kernel)) (fun _ h9 => h9) rfl dX2_givenSet_6 ?_
    refine lv_icmp_ge (tgt := 33) hx hb dX2_givenSet_9 (by decide) (fun c_1 => ?_) (fun c_1 => absurd (zle_refl (nI k)) c_1)
    refine lv_iload_n hx hb dX2_givenSet_33 rfl (lv_at hl 2 rfl) ?_
    exact W.iret (v := gsL le k e0 (k)) hx hb hr (fun t ht hW => ⟨_, rfl, (by first | rfl | (simp only [gsL, c_1]; done) | (simp only [gsL, c_1]; rfl) | (simp [gsL, c_1]; done)), ht⟩) (fun _ h => nomatch h) dX2_givenSet_34
  · have hl : lv_has ls 4 [(0, .ref (ad 5)), (1, .int e0), (2, .int (gsL le k e0 (i))), (3, .int (nI (i)))] := hl
    refine lv_iload_n hx hb dX2_givenSet_4 rfl (lv_at hl 3 rfl) ?_
    refine lv_aload_n hx hb dX2_givenSet_5 rfl (lv_at hl 0 rfl) ?_
    refine va_get (D := D) (ci := 2) (v := .int (nI k)) (C := RX2) (T := TX2) (N := 7) hx hb hts iX2 hown hK hP 5 cws_5 rfl 6 (by decide) (hts (.fieldLink RX2 38 "CapitalReckoner$Search" "gifts" "I") (by decide +kernel)) (fun _ h9 => h9) rfl dX2_givenSet_6 ?_
    refine lv_icmp_ge (tgt := 33) hx hb dX2_givenSet_9 (by decide) (fun c_2 => absurd c_2 (nI_ge hi (by have := hok.k; omega))) (fun c_2 => ?_)
    refine lv_aload_n hx hb dX2_givenSet_12 rfl (lv_at hl 0 rfl) ?_
    refine lv_iload_n hx hb dX2_givenSet_13 rfl (lv_at hl 3 rfl) ?_
    refine vp_callSi (va_Run.run (va_runV (As := [.int (nI (i))]) (rest := []) ⟨hx, hb, hml, hown, hts⟩ (zX2_takerOf l D cI cL cE cP ad g n k us wb tr pr le hok (nI (i))) (cwV 1 hts gX2_givenSet_X2_takerOf rfl rfl rfl (by decide +kernel) ⟨Nat.le_of_ble_eq_true rfl, Nat.le_of_ble_eq_true rfl⟩) ⟨zPr_blind, va_recv hK hP (ci := 2) (q0 := 5) rfl cws_5, zPr_mk hE hP⟩ rfl rfl hl.1 rfl (lv_room (Nat.le_of_ble_eq_true rfl)) dX2_givenSet_14 ⟨Nat.le_of_ble_eq_true rfl, Nat.le_of_ble_eq_true rfl⟩)) (fun r_3 e_4 => ?_)
    obtain rfl := e_4
    refine lv_iload_n hx hb dX2_givenSet_17 rfl (lv_at hl 1 rfl) ?_
    refine lv_icmp_ne (tgt := 27) hx hb dX2_givenSet_18 (by decide) (fun c_5 => ?_) (fun c_5 => ?_)
    · refine lv_iinc (v := nI ((i) + 1)) (lv' := [(3, .int (nI ((i) + 1))), (0, .ref (ad 5)), (1, .int e0), (2, .int (gsL le k e0 (i)))]) hx hb dX2_givenSet_27 hl (k := 3) rfl (zinc _) (by decide) rfl (fun ls hl => ?_)
      refine lv_goto (tgt := 4) hx hb dX2_givenSet_30 (by decide) ?_
      exact ih_4 ls (lv_re (lv_sub hl [1, 2, 3, 0] rfl) (by first | rfl | (simp only [gsL, c_2, c_5]; done) | (simp only [gsL, c_2, c_5]; rfl) | (simp [gsL, c_2, c_5]; done)))
    · refine lv_iload_n hx hb dX2_givenSet_21 rfl (lv_at hl 2 rfl) ?_
      refine lv_iconst (v := 1) hx hb dX2_givenSet_22 (by decide) ?_
      refine lv_iload_n hx hb dX2_givenSet_23 rfl (lv_at hl 3 rfl) ?_
      refine lv_ishl hx hb dX2_givenSet_24 ?_
      refine lv_ior hx hb dX2_givenSet_25 ?_
      refine lv_istore_n (lv' := [(2, .int ((gsL le k e0 (i)) ||| ((1 : Int32) <<< ((nI (i)) &&& 31)))), (0, .ref (ad 5)), (1, .int e0), (3, .int (nI (i)))]) hx hb dX2_givenSet_26 rfl hl (by decide) rfl (fun ls hl => ?_)
      refine lv_iinc (v := nI ((i) + 1)) (lv' := [(3, .int (nI ((i) + 1))), (2, .int ((gsL le k e0 (i)) ||| ((1 : Int32) <<< ((nI (i)) &&& 31)))), (0, .ref (ad 5)), (1, .int e0)]) hx hb dX2_givenSet_27 hl (k := 3) rfl (zinc _) (by decide) rfl (fun ls hl => ?_)
      refine lv_goto (tgt := 4) hx hb dX2_givenSet_30 (by decide) ?_
      exact ih_4 ls (lv_re (lv_sub hl [2, 3, 1, 0] rfl) (by first | rfl | (simp only [gsL, c_2, c_5]; done) | (simp only [gsL, c_2, c_5]; rfl) | (simp [gsL, c_2, c_5]; done)))
set_option maxHeartbeats 4000000 in
set_option maxRecDepth 100000 in
theorem zX2_tryFrom0 (l : Launch) (D : va_G) (cI cL cE cP : ClassId) (ad : Nat → Nat) (g : Nat → Nat → Int32) (n k : Nat) (us wb tr : Nat → Int32) (pr le : Nat → Int64) (hok : zOk g n k) (sum : Int32) (sz : Nat) : Met l yX2_tryFrom wsX2_tryFrom ({ frames := 5, cells := 0, slots := 0, locals := 100 }) (zPw D cI cL cE cP (cws cI cL cE cP ad g n k us wb tr pr le (nI n) (nI k)) sz [.ref (ad 5), .int (nI k), .int sum]) (zQi D (cws cI cL cE cP ad g n k us wb tr pr le (nI n) (nI k)) sz (fun r : Int32 => r = sum) (cws cI cL cE cP ad g n k us wb tr pr le (nI n) (nI k))) 0 0 (va_A (cws cI cL cE cP ad g n k us wb tr pr le (nI n) (nI k)) sz) := by
  refine Met.ofW (cc := cX2_tryFrom) (maxL := 8) (ret := (some .int)) (by decide) rfl ?_
  intro p e s m args below meth c s₁ B hml hv
  obtain ⟨rfl, hsz, hE, hP, hD0⟩ := hv
  subst hsz
  obtain ⟨A, hAe⟩ : ∃ A, A = va_A (cws cI cL cE cP ad g n k us wb tr pr le (nI n) (nI k)) s.heap.size := ⟨_, rfl⟩
  have hD : va_D A (cws cI cL cE cP ad g n k us wb tr pr le (nI n) (nI k)) := by rw [hAe]; exact hD0.self
  have hA : ∀ q : Nat, s.heap.size ≤ q → A q := fun q h => by rw [hAe]; exact Or.inr h
  have hS : va_S A s.heap s.heap [] := va_S.rf
  have hx := B.exec
  have hb := B.bytes
  have hr := B.returns
  have hts := atoms_spec (ws := wsX2_tryFrom) B.pre
  have hown : s.vm.findClass RX2 = some m.cls := findClass_of_methodNamed B.named
  have hlocks := B.notSynchronized
  have hK := hE.1
  have iX2 : ∀ w ∈ wsX20, w ∈ wsX2_tryFrom := by decide +kernel
  have hl := lv_entry ([.ref (ad 5), .int (nI k), .int sum]) (n := 8) (Nat.le_of_ble_eq_true rfl)
  rw [lg_entry_eq]
  generalize (lg_sl ([.ref (ad 5), .int (nI k), .int sum]) ++ List.replicate (8 - (lg_sl ([.ref (ad 5), .int (nI k), .int sum])).length) Slot.unset).toArray = ls at hl ⊢
  have hl : lv_has ls 8 [(0, .ref (ad 5)), (1, .int (nI k)), (2, .int sum)] := hl
  refine lv_iload_n hx hb dX2_tryFrom_0 rfl (lv_at hl 1 rfl) ?_
  refine lv_if_lt (tgt := 12) hx hb dX2_tryFrom_1 (by decide) (fun c_1 => absurd c_1 (nI_pos (by have := hok.k; omega))) (fun c_1 => ?_)
  refine lv_iload_n hx hb dX2_tryFrom_4 rfl (lv_at hl 1 rfl) ?_
  refine lv_aload_n hx hb dX2_tryFrom_5 rfl (lv_at hl 0 rfl) ?_
  refine va_get (D := D) (ci := 2) (v := .int (nI k)) (C := RX2) (T := TX2) (N := 7) hx hb hts iX2 hown hK hP 5 cws_5 rfl 6 (by decide) (hts (.fieldLink RX2 38 "CapitalReckoner$Search" "gifts" "I") (by decide +kernel)) (fun _ h9 => h9) rfl dX2_tryFrom_6 ?_
  refine lv_icmp_lt (tgt := 14) hx hb dX2_tryFrom_9 (by decide) (fun c_2 => absurd c_2 (nI_nlt (Nat.le_refl k) (by have := hok.k; omega))) (fun c_2 => ?_)
  refine lv_iload_n hx hb dX2_tryFrom_12 rfl (lv_at hl 2 rfl) ?_
  exact ziret (v := sum) hx hb hr hAe (by first | rfl | (simp only [c_1, c_2]; done) | (simp only [c_1, c_2]; rfl) | (simp [c_1, c_2]; done)) (zP_re hP (rfl)) (zD_re hD (rfl)) hS dX2_tryFrom_13
set_option maxHeartbeats 4000000 in
set_option maxRecDepth 100000 in
theorem zX2_tryFromS (l : Launch) (D : va_G) (cI cL cE cP : ClassId) (ad : Nat → Nat) (g : Nat → Nat → Int32) (n k : Nat) (us wb tr : Nat → Int32) (pr le : Nat → Int64) (hok : zOk g n k) (sum : Int32) (F Lo F2 Lo2 d pp : Nat) (hF : 3 ≤ F) (hF2 : F + 1 ≤ F2) (hLo : Lo + 100 ≤ Lo2) (hp : pp < k) (ih : ∀ (tr : Nat → Int32) (sum : Int32) (sz : Nat), Met l yX2_tryFrom wsX2_tryFrom ({ frames := F, cells := 0, slots := 0, locals := Lo }) (zPw D cI cL cE cP (cws cI cL cE cP ad g n k us wb tr pr le (nI n) (nI k)) sz [.ref (ad 5), .int (nI (pp + 1)), .int sum]) (zQi D (cws cI cL cE cP ad g n k us wb tr pr le (nI n) (nI k)) sz (fun r : Int32 => r = tfF us wb n d (pp + 1) tr sum) (cws cI cL cE cP ad g n k us wb tr pr le (nI n) (nI k))) 0 0 (va_A (cws cI cL cE cP ad g n k us wb tr pr le (nI n) (nI k)) sz)) (sz : Nat) : Met l yX2_tryFrom wsX2_tryFrom ({ frames := F2, cells := 0, slots := 0, locals := Lo2 }) (zPw D cI cL cE cP (cws cI cL cE cP ad g n k us wb tr pr le (nI n) (nI k)) sz [.ref (ad 5), .int (nI pp), .int sum]) (zQi D (cws cI cL cE cP ad g n k us wb tr pr le (nI n) (nI k)) sz (fun r : Int32 => r = tfF us wb n (d + 1) pp tr sum) (cws cI cL cE cP ad g n k us wb tr pr le (nI n) (nI k))) 0 0 (va_A (cws cI cL cE cP ad g n k us wb tr pr le (nI n) (nI k)) sz) := by
  refine Met.ofW (cc := cX2_tryFrom) (maxL := 8) (ret := (some .int)) (by decide) rfl ?_
  intro p e s m args below meth c s₁ B hml hv
  obtain ⟨rfl, hsz, hE, hP, hD0⟩ := hv
  subst hsz
  obtain ⟨A, hAe⟩ : ∃ A, A = va_A (cws cI cL cE cP ad g n k us wb tr pr le (nI n) (nI k)) s.heap.size := ⟨_, rfl⟩
  have hD : va_D A (cws cI cL cE cP ad g n k us wb tr pr le (nI n) (nI k)) := by rw [hAe]; exact hD0.self
  have hA : ∀ q : Nat, s.heap.size ≤ q → A q := fun q h => by rw [hAe]; exact Or.inr h
  have hS : va_S A s.heap s.heap [] := va_S.rf
  have hx := B.exec
  have hb := B.bytes
  have hr := B.returns
  have hts := atoms_spec (ws := wsX2_tryFrom) B.pre
  have hown : s.vm.findClass RX2 = some m.cls := findClass_of_methodNamed B.named
  have hlocks := B.notSynchronized
  have hK := hE.1
  have iX2 : ∀ w ∈ wsX20, w ∈ wsX2_tryFrom := by decide +kernel
  have hl := lv_entry ([.ref (ad 5), .int (nI pp), .int sum]) (n := 8) (Nat.le_of_ble_eq_true rfl)
  rw [lg_entry_eq]
  generalize (lg_sl ([.ref (ad 5), .int (nI pp), .int sum]) ++ List.replicate (8 - (lg_sl ([.ref (ad 5), .int (nI pp), .int sum])).length) Slot.unset).toArray = ls at hl ⊢
  have hl : lv_has ls 8 [(0, .ref (ad 5)), (1, .int (nI pp)), (2, .int sum)] := hl
  refine lv_iload_n hx hb dX2_tryFrom_0 rfl (lv_at hl 1 rfl) ?_
  refine lv_if_lt (tgt := 12) hx hb dX2_tryFrom_1 (by decide) (fun c_1 => absurd c_1 (nI_pos (by have := hok.k; omega))) (fun c_1 => ?_)
  refine lv_iload_n hx hb dX2_tryFrom_4 rfl (lv_at hl 1 rfl) ?_
  refine lv_aload_n hx hb dX2_tryFrom_5 rfl (lv_at hl 0 rfl) ?_
  refine va_get (D := D) (ci := 2) (v := .int (nI k)) (C := RX2) (T := TX2) (N := 7) hx hb hts iX2 hown hK hP 5 cws_5 rfl 6 (by decide) (hts (.fieldLink RX2 38 "CapitalReckoner$Search" "gifts" "I") (by decide +kernel)) (fun _ h9 => h9) rfl dX2_tryFrom_6 ?_
  refine lv_icmp_lt (tgt := 14) hx hb dX2_tryFrom_9 (by decide) (fun c_2 => ?_) (fun c_2 => absurd (nI_lt hp (by have := hok.k; omega)) c_2)
  refine lv_aload_n hx hb dX2_tryFrom_14 rfl (lv_at hl 0 rfl) ?_
  refine lv_iload_n hx hb dX2_tryFrom_15 rfl (lv_at hl 1 rfl) ?_
  refine lv_iconst (v := 1) hx hb dX2_tryFrom_16 (by decide) ?_
  refine lv_iadd hx hb dX2_tryFrom_17 ?_
  rw [show ((nI pp) + 1) = nI (pp + 1) from nI_1 pp]
  refine lv_iload_n hx hb dX2_tryFrom_18 rfl (lv_at hl 2 rfl) ?_
  refine zcalli (va_runS (As := [.ref (ad 5), .int (nI (pp + 1)), .int sum]) (rest := []) ⟨hx, hb, hml, hown, hts⟩ (ih (tr) (sum) s.heap.size) (va_cwS 3 hts gX2_tryFrom_X2_tryFrom rfl rfl rfl (by decide +kernel) ⟨show F + 1 ≤ F2 by omega, show 8 +  (8 + 11) + Lo ≤ Lo2 by omega⟩) ⟨zPw_blind, zPw_mk hE hP hD⟩ rfl rfl hl.1 rfl (lv_room (Nat.le_of_ble_eq_true rfl)) dX2_tryFrom_19 ⟨Nat.le_of_ble_eq_true rfl, Nat.le_of_ble_eq_true rfl⟩) hD hS hA (fun r_3 H locs e_4 hP hD hS => ?_)
  obtain rfl := e_4
  have hP : va_P D vwCl (cws cI cL cE cP ad g n k us wb tr pr le (nI n) (nI k)) H := hP
  have hD : va_D A (cws cI cL cE cP ad g n k us wb tr pr le (nI n) (nI k)) := hD
  refine lv_istore_n (lv' := [(3, .int (tfF us wb n d (pp + 1) tr sum)), (0, .ref (ad 5)), (1, .int (nI pp)), (2, .int sum)]) hx hb dX2_tryFrom_22 rfl hl (by decide) rfl (fun ls hl => ?_)
  refine lv_iconst (v := 0) hx hb dX2_tryFrom_23 (by decide) ?_
  refine lv_istore (lv' := [(4, .int 0), (3, .int (tfF us wb n d (pp + 1) tr sum)), (0, .ref (ad 5)), (1, .int (nI pp)), (2, .int sum)]) hx hb dX2_tryFrom_24 hl (by decide) rfl (fun ls hl => ?_)
  refine zloopM (nL := 8) (lv := fun i => [(0, .ref (ad 5)), (1, .int (nI pp)), (2, .int sum), (3, .int (zfm (fun e => zhas (zat 8 us (nI e)) (nI pp)) (fun e => tfF us wb n d (pp + 1) (zput 8 tr (nI e) (zat 8 tr (nI e) ||| ((1 : Int32) <<< (nI pp &&& 31)))) (sum + (zat 256 wb (nI e * 32 + (zat 8 tr (nI e) ||| ((1 : Int32) <<< (nI pp &&& 31)))) - zat 256 wb (nI e * 32 + zat 8 tr (nI e))))) (tfF us wb n d (pp + 1) tr sum) (i))), (4, .int (nI (i)))]) (wd := fun i => cws cI cL cE cP ad g n k us wb tr pr le (nI n) (nI k)) (n := n) (lv_re (lv_sub hl [2, 3, 4, 1, 0] rfl) (by first | rfl | (simp only [tfF, zfm, nI_0]; done) | (simp only [tfF, zfm, nI_0]; rfl) | (simp [tfF, zfm, nI_0]; done))) (zP_re hP (rfl)) (zD_re hD (rfl)) hS (fun H locs ls hP hD hS hl => ?_) (fun i hi ih_26 H locs ls hP hD hS hl => ?_)
  · have hl : lv_has ls 8 [(0, .ref (ad 5)), (1, .int (nI pp)), (2, .int sum), (3, .int (zfm (fun e => zhas (zat 8 us (nI e)) (nI pp)) (fun e => tfF us wb n d (pp + 1) (zput 8 tr (nI e) (zat 8 tr (nI e) ||| ((1 : Int32) <<< (nI pp &&& 31)))) (sum + (zat 256 wb (nI e * 32 + (zat 8 tr (nI e) ||| ((1 : Int32) <<< (nI pp &&& 31)))) - zat 256 wb (nI e * 32 + zat 8 tr (nI e))))) (tfF us wb n d (pp + 1) tr sum) (n))), (4, .int (nI (n)))] := hl
    have hP : va_P D vwCl (cws cI cL cE cP ad g n k us wb tr pr le (nI n) (nI k)) H := hP
    have hD : va_D A (cws cI cL cE cP ad g n k us wb tr pr le (nI n) (nI k)) := hD
    refine lv_iload hx hb dX2_tryFrom_26 (lv_at hl 4 rfl) ?_
    refine lv_aload_n hx hb dX2_tryFrom_28 rfl (lv_at hl 0 rfl) ?_
    refine va_get (D := D) (ci := 2) (v := .int (nI n)) (C := RX2) (T := TX2) (N := 7) hx hb hts iX2 hown hK hP 5 cws_5 rfl 5 (by decide) (hts (.fieldLink RX2 34 "CapitalReckoner$Search" "takers" "I") (by decide +kernel)) (fun _ h9 => h9) rfl dX2_tryFrom_29 ?_
    refine lv_icmp_ge (tgt := 133) hx hb dX2_tryFrom_32 (by decide) (fun c_5 => ?_) (fun c_5 => absurd (zle_refl (nI n)) c_5)
    refine lv_iload_n hx hb dX2_tryFrom_133 rfl (lv_at hl 3 rfl) ?_
    exact ziret (v := zfm (fun e => zhas (zat 8 us (nI e)) (nI pp)) (fun e => tfF us wb n d (pp + 1) (zput 8 tr (nI e) (zat 8 tr (nI e) ||| ((1 : Int32) <<< (nI pp &&& 31)))) (sum + (zat 256 wb (nI e * 32 + (zat 8 tr (nI e) ||| ((1 : Int32) <<< (nI pp &&& 31)))) - zat 256 wb (nI e * 32 + zat 8 tr (nI e))))) (tfF us wb n d (pp + 1) tr sum) (n)) hx hb hr hAe (by rfl) (zP_re hP (rfl)) (zD_re hD (rfl)) hS dX2_tryFrom_134
  · have hl : lv_has ls 8 [(0, .ref (ad 5)), (1, .int (nI pp)), (2, .int sum), (3, .int (zfm (fun e => zhas (zat 8 us (nI e)) (nI pp)) (fun e => tfF us wb n d (pp + 1) (zput 8 tr (nI e) (zat 8 tr (nI e) ||| ((1 : Int32) <<< (nI pp &&& 31)))) (sum + (zat 256 wb (nI e * 32 + (zat 8 tr (nI e) ||| ((1 : Int32) <<< (nI pp &&& 31)))) - zat 256 wb (nI e * 32 + zat 8 tr (nI e))))) (tfF us wb n d (pp + 1) tr sum) (i))), (4, .int (nI (i)))] := hl
    have hP : va_P D vwCl (cws cI cL cE cP ad g n k us wb tr pr le (nI n) (nI k)) H := hP
    have hD : va_D A (cws cI cL cE cP ad g n k us wb tr pr le (nI n) (nI k)) := hD
    refine lv_iload hx hb dX2_tryFrom_26 (lv_at hl 4 rfl) ?_
    refine lv_aload_n hx hb dX2_tryFrom_28 rfl (lv_at hl 0 rfl) ?_
    refine va_get (D := D) (ci := 2) (v := .int (nI n)) (C := RX2) (T := TX2) (N := 7) hx hb hts iX2 hown hK hP 5 cws_5 rfl 5 (by decide) (hts (.fieldLink RX2 34 "CapitalReckoner$Search" "takers" "I") (by decide +kernel)) (fun _ h9 => h9) rfl dX2_tryFrom_29 ?_
    refine lv_icmp_ge (tgt := 133) hx hb dX2_tryFrom_32 (by decide) (fun c_6 => absurd c_6 (nI_ge hi (by have := hok.n; omega))) (fun c_6 => ?_)
    refine lv_aload_n hx hb dX2_tryFrom_35 rfl (lv_at hl 0 rfl) ?_
    refine va_get (D := D) (ci := 2) (v := .ref (ad 6)) (C := RX2) (T := TX2) (N := 7) hx hb hts iX2 hown hK hP 5 cws_5 rfl 0 (by decide) (hts (.fieldLink RX2 11 "CapitalReckoner$Search" "usable" "[I") (by decide +kernel)) (fun _ h9 => h9) rfl dX2_tryFrom_36 ?_
    refine lv_iload hx hb dX2_tryFrom_39 (lv_at hl 4 rfl) ?_
    refine vp_callSi (va_Run.run (va_runSN (As := [.ref (ad 6), .int (nI (i))]) (rest := []) ⟨hx, hb, hml, hown, hts⟩ (zX3_at l D cI cL cE cP (cws cI cL cE cP ad g n k us wb tr pr le (nI n) (nI k)) 6 (ad 6) 8 (us) (by decide) cws_6 (nI (i))) ⟨va_cnB 2 hts gX2_tryFrom_X3_at_n45 rfl rfl rfl (hE.2 (.methodLinkNest RX2 45 yX3_at RX3) (List.mem_of_getElem? (i := 11) rfl)) (hts (.initialized RX3) (by decide +kernel)) (by decide +kernel) ⟨show 0 + 1 ≤ F2 by omega, show 8 + (2 + 11) + 0 ≤ Lo2 by omega⟩, (hts (.static yX3_at) (by decide +kernel)), trivial⟩ ⟨zPr_blind, zPr_mk hE hP⟩ rfl rfl hl.1 rfl (lv_room (Nat.le_of_ble_eq_true rfl)) dX2_tryFrom_41 ⟨Nat.le_of_ble_eq_true rfl, Nat.le_of_ble_eq_true rfl⟩)) (fun r_7 e_8 => ?_)
    obtain rfl := e_8
    refine lv_iload_n hx hb dX2_tryFrom_44 rfl (lv_at hl 1 rfl) ?_
    refine vp_callSi (va_Run.run (va_runSN (As := [.int (zat 8 us (nI (i))), .int (nI pp)]) (rest := []) ⟨hx, hb, hml, hown, hts⟩ (zX3_has l D cI cL cE cP (cws cI cL cE cP ad g n k us wb tr pr le (nI n) (nI k)) (zat 8 us (nI (i))) (nI pp)) ⟨va_cnB 2 hts gX2_tryFrom_X3_has_n49 rfl rfl rfl (hE.2 (.methodLinkNest RX2 49 yX3_has RX3) (List.mem_of_getElem? (i := 10) rfl)) (hts (.initialized RX3) (by decide +kernel)) (by decide +kernel) ⟨show 0 + 1 ≤ F2 by omega, show 8 + (2 + 11) + 0 ≤ Lo2 by omega⟩, (hts (.static yX3_has) (by decide +kernel)), trivial⟩ ⟨zPr_blind, zPr_mk hE hP⟩ rfl rfl hl.1 rfl (lv_room (Nat.le_of_ble_eq_true rfl)) dX2_tryFrom_45 ⟨Nat.le_of_ble_eq_true rfl, Nat.le_of_ble_eq_true rfl⟩)) (fun r_9 e_10 => ?_)
    obtain rfl := e_10
    refine lv_if_eq (tgt := 127) hx hb dX2_tryFrom_48 (by decide) (fun c_11 => ?_) (fun c_11 => ?_)
    · have c_11 := zb_eq c_11
      refine lv_iinc (v := nI ((i) + 1)) (lv' := [(4, .int (nI ((i) + 1))), (0, .ref (ad 5)), (1, .int (nI pp)), (2, .int sum), (3, .int (zfm (fun e => zhas (zat 8 us (nI e)) (nI pp)) (fun e => tfF us wb n d (pp + 1) (zput 8 tr (nI e) (zat 8 tr (nI e) ||| ((1 : Int32) <<< (nI pp &&& 31)))) (sum + (zat 256 wb (nI e * 32 + (zat 8 tr (nI e) ||| ((1 : Int32) <<< (nI pp &&& 31)))) - zat 256 wb (nI e * 32 + zat 8 tr (nI e))))) (tfF us wb n d (pp + 1) tr sum) (i)))]) hx hb dX2_tryFrom_127 hl (k := 4) rfl (zinc _) (by decide) rfl (fun ls hl => ?_)
      refine lv_goto (tgt := 26) hx hb dX2_tryFrom_130 (by decide) ?_
      exact ih_26 H locs ls (zP_re hP (by first | rfl | rw [zput_back (show i < 8 by have := hok.n; omega) (by decide)])) (zD_re hD (by first | rfl | rw [zput_back (show i < 8 by have := hok.n; omega) (by decide)])) hS (lv_re (lv_sub hl [1, 2, 3, 4, 0] rfl) (by first | rfl | (simp only [tfF, zfm, c_1, c_2, c_6, c_11]; done) | (simp only [tfF, zfm, c_1, c_2, c_6, c_11]; rfl) | (simp [tfF, zfm, c_1, c_2, c_6, c_11]; done)))
    · have c_11 := zb_ne c_11
      refine lv_aload_n hx hb dX2_tryFrom_51 rfl (lv_at hl 0 rfl) ?_
      refine va_get (D := D) (ci := 2) (v := .ref (ad 8)) (C := RX2) (T := TX2) (N := 7) hx hb hts iX2 hown hK hP 5 cws_5 rfl 2 (by decide) (hts (.fieldLink RX2 18 "CapitalReckoner$Search" "tried" "[I") (by decide +kernel)) (fun _ h9 => h9) rfl dX2_tryFrom_52 ?_
      refine lv_iload hx hb dX2_tryFrom_55 (lv_at hl 4 rfl) ?_
      refine vp_callSi (va_Run.run (va_runSN (As := [.ref (ad 8), .int (nI (i))]) (rest := []) ⟨hx, hb, hml, hown, hts⟩ (zX3_at l D cI cL cE cP (cws cI cL cE cP ad g n k us wb tr pr le (nI n) (nI k)) 8 (ad 8) 8 (tr) (by decide) cws_8 (nI (i))) ⟨va_cnB 2 hts gX2_tryFrom_X3_at_n45 rfl rfl rfl (hE.2 (.methodLinkNest RX2 45 yX3_at RX3) (List.mem_of_getElem? (i := 11) rfl)) (hts (.initialized RX3) (by decide +kernel)) (by decide +kernel) ⟨show 0 + 1 ≤ F2 by omega, show 8 + (2 + 11) + 0 ≤ Lo2 by omega⟩, (hts (.static yX3_at) (by decide +kernel)), trivial⟩ ⟨zPr_blind, zPr_mk hE hP⟩ rfl rfl hl.1 rfl (lv_room (Nat.le_of_ble_eq_true rfl)) dX2_tryFrom_57 ⟨Nat.le_of_ble_eq_true rfl, Nat.le_of_ble_eq_true rfl⟩)) (fun r_12 e_13 => ?_)
      obtain rfl := e_13
      refine lv_istore (lv' := [(5, .int (zat 8 tr (nI (i)))), (0, .ref (ad 5)), (1, .int (nI pp)), (2, .int sum), (3, .int (zfm (fun e => zhas (zat 8 us (nI e)) (nI pp)) (fun e => tfF us wb n d (pp + 1) (zput 8 tr (nI e) (zat 8 tr (nI e) ||| ((1 : Int32) <<< (nI pp &&& 31)))) (sum + (zat 256 wb (nI e * 32 + (zat 8 tr (nI e) ||| ((1 : Int32) <<< (nI pp &&& 31)))) - zat 256 wb (nI e * 32 + zat 8 tr (nI e))))) (tfF us wb n d (pp + 1) tr sum) (i))), (4, .int (nI (i)))]) hx hb dX2_tryFrom_60 hl (by decide) rfl (fun ls hl => ?_)
      refine lv_iload hx hb dX2_tryFrom_62 (lv_at hl 0 rfl) ?_
      refine lv_iconst (v := 1) hx hb dX2_tryFrom_64 (by decide) ?_
      refine lv_iload_n hx hb dX2_tryFrom_65 rfl (lv_at hl 2 rfl) ?_
      refine lv_ishl hx hb dX2_tryFrom_66 ?_
      refine lv_ior hx hb dX2_tryFrom_67 ?_
      refine lv_istore (lv' := [(6, .int ((zat 8 tr (nI (i))) ||| ((1 : Int32) <<< ((nI pp) &&& 31)))), (5, .int (zat 8 tr (nI (i)))), (0, .ref (ad 5)), (1, .int (nI pp)), (2, .int sum), (3, .int (zfm (fun e => zhas (zat 8 us (nI e)) (nI pp)) (fun e => tfF us wb n d (pp + 1) (zput 8 tr (nI e) (zat 8 tr (nI e) ||| ((1 : Int32) <<< (nI pp &&& 31)))) (sum + (zat 256 wb (nI e * 32 + (zat 8 tr (nI e) ||| ((1 : Int32) <<< (nI pp &&& 31)))) - zat 256 wb (nI e * 32 + zat 8 tr (nI e))))) (tfF us wb n d (pp + 1) tr sum) (i))), (4, .int (nI (i)))]) hx hb dX2_tryFrom_68 hl (by decide) rfl (fun ls hl => ?_)
      refine lv_aload_n hx hb dX2_tryFrom_70 rfl (lv_at hl 2 rfl) ?_
      refine lv_iload hx hb dX2_tryFrom_71 (lv_at hl 6 rfl) ?_
      refine lv_iload hx hb dX2_tryFrom_73 (lv_at hl 0 rfl) ?_
      refine vp_callSi (va_Run.run (va_runV (As := [.int (nI (i)), .int ((zat 8 tr (nI (i))) ||| ((1 : Int32) <<< ((nI pp) &&& 31)))]) (rest := []) ⟨hx, hb, hml, hown, hts⟩ (zX2_weightedWith l D cI cL cE cP ad g n k us wb tr pr le (nI n) (nI k) hok (nI (i)) ((zat 8 tr (nI (i))) ||| ((1 : Int32) <<< ((nI pp) &&& 31)))) (cwV 2 hts gX2_tryFrom_X2_weightedWith rfl rfl rfl (by decide +kernel) ⟨show 1 + 1 ≤ F2 by omega, show 8 + (3 + 11) + 21 ≤ Lo2 by omega⟩) ⟨zPr_blind, va_recv hK hP (ci := 2) (q0 := 5) rfl cws_5, zPr_mk hE hP⟩ rfl rfl hl.1 rfl (lv_room (Nat.le_of_ble_eq_true rfl)) dX2_tryFrom_75 ⟨Nat.le_of_ble_eq_true rfl, Nat.le_of_ble_eq_true rfl⟩)) (fun r_14 e_15 => ?_)
      obtain rfl := e_15
      refine lv_aload_n hx hb dX2_tryFrom_78 rfl (lv_at hl 2 rfl) ?_
      refine lv_iload hx hb dX2_tryFrom_79 (lv_at hl 6 rfl) ?_
      refine lv_iload hx hb dX2_tryFrom_81 (lv_at hl 1 rfl) ?_
      refine vp_callSi (va_Run.run (va_runV (As := [.int (nI (i)), .int (zat 8 tr (nI (i)))]) (rest := [.int (zat 256 wb ((nI (i)) * 32 + ((zat 8 tr (nI (i))) ||| ((1 : Int32) <<< ((nI pp) &&& 31)))))]) ⟨hx, hb, hml, hown, hts⟩ (zX2_weightedWith l D cI cL cE cP ad g n k us wb tr pr le (nI n) (nI k) hok (nI (i)) (zat 8 tr (nI (i)))) (cwV 2 hts gX2_tryFrom_X2_weightedWith rfl rfl rfl (by decide +kernel) ⟨show 1 + 1 ≤ F2 by omega, show 8 + (3 + 11) + 21 ≤ Lo2 by omega⟩) ⟨zPr_blind, va_recv hK hP (ci := 2) (q0 := 5) rfl cws_5, zPr_mk hE hP⟩ rfl rfl hl.1 rfl (lv_room (Nat.le_of_ble_eq_true rfl)) dX2_tryFrom_83 ⟨Nat.le_of_ble_eq_true rfl, Nat.le_of_ble_eq_true rfl⟩)) (fun r_16 e_17 => ?_)
      obtain rfl := e_17
      refine lv_isub hx hb dX2_tryFrom_86 ?_
      refine lv_istore (lv' := [(7, .int ((zat 256 wb ((nI (i)) * 32 + ((zat 8 tr (nI (i))) ||| ((1 : Int32) <<< ((nI pp) &&& 31))))) - (zat 256 wb ((nI (i)) * 32 + (zat 8 tr (nI (i))))))), (6, .int ((zat 8 tr (nI (i))) ||| ((1 : Int32) <<< ((nI pp) &&& 31)))), (5, .int (zat 8 tr (nI (i)))), (0, .ref (ad 5)), (1, .int (nI pp)), (2, .int sum), (3, .int (zfm (fun e => zhas (zat 8 us (nI e)) (nI pp)) (fun e => tfF us wb n d (pp + 1) (zput 8 tr (nI e) (zat 8 tr (nI e) ||| ((1 : Int32) <<< (nI pp &&& 31)))) (sum + (zat 256 wb (nI e * 32 + (zat 8 tr (nI e) ||| ((1 : Int32) <<< (nI pp &&& 31)))) - zat 256 wb (nI e * 32 + zat 8 tr (nI e))))) (tfF us wb n d (pp + 1) tr sum) (i))), (4, .int (nI (i)))]) hx hb dX2_tryFrom_87 hl (by decide) rfl (fun ls hl => ?_)
      refine lv_aload_n hx hb dX2_tryFrom_89 rfl (lv_at hl 3 rfl) ?_
      refine va_get (D := D) (ci := 2) (v := .ref (ad 8)) (C := RX2) (T := TX2) (N := 7) hx hb hts iX2 hown hK hP 5 cws_5 rfl 2 (by decide) (hts (.fieldLink RX2 18 "CapitalReckoner$Search" "tried" "[I") (by decide +kernel)) (fun _ h9 => h9) rfl dX2_tryFrom_90 ?_
      refine lv_iload hx hb dX2_tryFrom_93 (lv_at hl 7 rfl) ?_
      refine lv_iload hx hb dX2_tryFrom_95 (lv_at hl 1 rfl) ?_
      refine zcallv (va_runSN (As := [.ref (ad 8), .int (nI (i)), .int ((zat 8 tr (nI (i))) ||| ((1 : Int32) <<< ((nI pp) &&& 31)))]) (rest := []) ⟨hx, hb, hml, hown, hts⟩ (zX3_put l D cI cL cE cP (cws cI cL cE cP ad g n k us wb tr pr le (nI n) (nI k)) 8 (ad 8) 8 (tr) (by decide) cws_8 (nI (i)) ((zat 8 tr (nI (i))) ||| ((1 : Int32) <<< ((nI pp) &&& 31))) H.size) ⟨va_cnB 3 hts gX2_tryFrom_X3_put_n41 rfl rfl rfl (hE.2 (.methodLinkNest RX2 41 yX3_put RX3) (List.mem_of_getElem? (i := 3) rfl)) (hts (.initialized RX3) (by decide +kernel)) (by decide +kernel) ⟨show 0 + 1 ≤ F2 by omega, show 8 + (3 + 11) + 0 ≤ Lo2 by omega⟩, (hts (.static yX3_put) (by decide +kernel)), trivial⟩ ⟨zPw_blind, zPw_mk hE hP hD⟩ rfl rfl hl.1 rfl (lv_room (Nat.le_of_ble_eq_true rfl)) dX2_tryFrom_97 ⟨Nat.le_of_ble_eq_true rfl, Nat.le_of_ble_eq_true rfl⟩) hD hS hA (fun H locs hP hD hS => ?_)
      have hP : va_P D vwCl (cws cI cL cE cP ad g n k us wb (zput 8 tr (nI (i)) ((zat 8 tr (nI (i))) ||| ((1 : Int32) <<< ((nI pp) &&& 31)))) pr le (nI n) (nI k)) H := zP_re hP (cws_s8).symm
      have hD : va_D A (cws cI cL cE cP ad g n k us wb (zput 8 tr (nI (i)) ((zat 8 tr (nI (i))) ||| ((1 : Int32) <<< ((nI pp) &&& 31)))) pr le (nI n) (nI k)) := zD_re hD (cws_s8).symm
      refine lv_iload_n hx hb dX2_tryFrom_100 rfl (lv_at hl 6 rfl) ?_
      refine lv_aload_n hx hb dX2_tryFrom_101 rfl (lv_at hl 3 rfl) ?_
      refine lv_iload_n hx hb dX2_tryFrom_102 rfl (lv_at hl 4 rfl) ?_
      refine lv_iconst (v := 1) hx hb dX2_tryFrom_103 (by decide) ?_
      refine lv_iadd hx hb dX2_tryFrom_104 ?_
      rw [show ((nI pp) + 1) = nI (pp + 1) from nI_1 pp]
      refine lv_iload_n hx hb dX2_tryFrom_105 rfl (lv_at hl 5 rfl) ?_
      refine lv_iload hx hb dX2_tryFrom_106 (lv_at hl 0 rfl) ?_
      refine lv_iadd hx hb dX2_tryFrom_108 ?_
      refine zcalli (va_runS (As := [.ref (ad 5), .int (nI (pp + 1)), .int (sum + ((zat 256 wb ((nI (i)) * 32 + ((zat 8 tr (nI (i))) ||| ((1 : Int32) <<< ((nI pp) &&& 31))))) - (zat 256 wb ((nI (i)) * 32 + (zat 8 tr (nI (i)))))))]) (rest := [.int (zfm (fun e => zhas (zat 8 us (nI e)) (nI pp)) (fun e => tfF us wb n d (pp + 1) (zput 8 tr (nI e) (zat 8 tr (nI e) ||| ((1 : Int32) <<< (nI pp &&& 31)))) (sum + (zat 256 wb (nI e * 32 + (zat 8 tr (nI e) ||| ((1 : Int32) <<< (nI pp &&& 31)))) - zat 256 wb (nI e * 32 + zat 8 tr (nI e))))) (tfF us wb n d (pp + 1) tr sum) (i))]) ⟨hx, hb, hml, hown, hts⟩ (ih (zput 8 tr (nI (i)) ((zat 8 tr (nI (i))) ||| ((1 : Int32) <<< ((nI pp) &&& 31)))) (sum + ((zat 256 wb ((nI (i)) * 32 + ((zat 8 tr (nI (i))) ||| ((1 : Int32) <<< ((nI pp) &&& 31))))) - (zat 256 wb ((nI (i)) * 32 + (zat 8 tr (nI (i))))))) H.size) (va_cwS 3 hts gX2_tryFrom_X2_tryFrom rfl rfl rfl (by decide +kernel) ⟨show F + 1 ≤ F2 by omega, show 8 +  (8 + 11) + Lo ≤ Lo2 by omega⟩) ⟨zPw_blind, zPw_mk hE hP hD⟩ rfl rfl hl.1 rfl (lv_room (Nat.le_of_ble_eq_true rfl)) dX2_tryFrom_109 ⟨Nat.le_of_ble_eq_true rfl, Nat.le_of_ble_eq_true rfl⟩) hD hS hA (fun r_20 H locs e_21 hP hD hS => ?_)
      obtain rfl := e_21
      have hP : va_P D vwCl (cws cI cL cE cP ad g n k us wb (zput 8 tr (nI (i)) ((zat 8 tr (nI (i))) ||| ((1 : Int32) <<< ((nI pp) &&& 31)))) pr le (nI n) (nI k)) H := hP
      have hD : va_D A (cws cI cL cE cP ad g n k us wb (zput 8 tr (nI (i)) ((zat 8 tr (nI (i))) ||| ((1 : Int32) <<< ((nI pp) &&& 31)))) pr le (nI n) (nI k)) := hD
      refine va_mmin hx hb (hml.trans hl.1.symm) hown (hts (.methodLink RX2 28 Lib.Math.min.name) (by decide +kernel)) (hts (.static Lib.Math.min.name) (by decide +kernel)) (hts (.initialized "java/lang/Math") (by decide +kernel)) (hts (.code Lib.Math.min.name Lib.Math.min.code 2 (some .int)) (by decide +kernel)) (by show 1 ≤ F2; omega) (by show 0 + 13 ≤ Lo2; omega) (Nat.zero_le _) (Nat.zero_le _) dX2_tryFrom_112 ?_
      refine lv_istore_n (lv' := [(3, .int (if tfF us wb n d (pp + 1) (zput 8 tr (nI (i)) ((zat 8 tr (nI (i))) ||| ((1 : Int32) <<< ((nI pp) &&& 31)))) (sum + ((zat 256 wb ((nI (i)) * 32 + ((zat 8 tr (nI (i))) ||| ((1 : Int32) <<< ((nI pp) &&& 31))))) - (zat 256 wb ((nI (i)) * 32 + (zat 8 tr (nI (i))))))) < zfm (fun e => zhas (zat 8 us (nI e)) (nI pp)) (fun e => tfF us wb n d (pp + 1) (zput 8 tr (nI e) (zat 8 tr (nI e) ||| ((1 : Int32) <<< (nI pp &&& 31)))) (sum + (zat 256 wb (nI e * 32 + (zat 8 tr (nI e) ||| ((1 : Int32) <<< (nI pp &&& 31)))) - zat 256 wb (nI e * 32 + zat 8 tr (nI e))))) (tfF us wb n d (pp + 1) tr sum) (i) then tfF us wb n d (pp + 1) (zput 8 tr (nI (i)) ((zat 8 tr (nI (i))) ||| ((1 : Int32) <<< ((nI pp) &&& 31)))) (sum + ((zat 256 wb ((nI (i)) * 32 + ((zat 8 tr (nI (i))) ||| ((1 : Int32) <<< ((nI pp) &&& 31))))) - (zat 256 wb ((nI (i)) * 32 + (zat 8 tr (nI (i))))))) else zfm (fun e => zhas (zat 8 us (nI e)) (nI pp)) (fun e => tfF us wb n d (pp + 1) (zput 8 tr (nI e) (zat 8 tr (nI e) ||| ((1 : Int32) <<< (nI pp &&& 31)))) (sum + (zat 256 wb (nI e * 32 + (zat 8 tr (nI e) ||| ((1 : Int32) <<< (nI pp &&& 31)))) - zat 256 wb (nI e * 32 + zat 8 tr (nI e))))) (tfF us wb n d (pp + 1) tr sum) (i))), (7, .int ((zat 256 wb ((nI (i)) * 32 + ((zat 8 tr (nI (i))) ||| ((1 : Int32) <<< ((nI pp) &&& 31))))) - (zat 256 wb ((nI (i)) * 32 + (zat 8 tr (nI (i))))))), (6, .int ((zat 8 tr (nI (i))) ||| ((1 : Int32) <<< ((nI pp) &&& 31)))), (5, .int (zat 8 tr (nI (i)))), (0, .ref (ad 5)), (1, .int (nI pp)), (2, .int sum), (4, .int (nI (i)))]) hx hb dX2_tryFrom_115 rfl hl (by decide) rfl (fun ls hl => ?_)
      refine lv_aload_n hx hb dX2_tryFrom_116 rfl (lv_at hl 4 rfl) ?_
      refine va_get (D := D) (ci := 2) (v := .ref (ad 8)) (C := RX2) (T := TX2) (N := 7) hx hb hts iX2 hown hK hP 5 cws_5 rfl 2 (by decide) (hts (.fieldLink RX2 18 "CapitalReckoner$Search" "tried" "[I") (by decide +kernel)) (fun _ h9 => h9) rfl dX2_tryFrom_117 ?_
      refine lv_iload hx hb dX2_tryFrom_120 (lv_at hl 7 rfl) ?_
      refine lv_iload hx hb dX2_tryFrom_122 (lv_at hl 3 rfl) ?_
      refine zcallv (va_runSN (As := [.ref (ad 8), .int (nI (i)), .int (zat 8 tr (nI (i)))]) (rest := []) ⟨hx, hb, hml, hown, hts⟩ (zX3_put l D cI cL cE cP (cws cI cL cE cP ad g n k us wb (zput 8 tr (nI (i)) ((zat 8 tr (nI (i))) ||| ((1 : Int32) <<< ((nI pp) &&& 31)))) pr le (nI n) (nI k)) 8 (ad 8) 8 (zput 8 tr (nI (i)) ((zat 8 tr (nI (i))) ||| ((1 : Int32) <<< ((nI pp) &&& 31)))) (by decide) cws_8 (nI (i)) (zat 8 tr (nI (i))) H.size) ⟨va_cnB 3 hts gX2_tryFrom_X3_put_n41 rfl rfl rfl (hE.2 (.methodLinkNest RX2 41 yX3_put RX3) (List.mem_of_getElem? (i := 3) rfl)) (hts (.initialized RX3) (by decide +kernel)) (by decide +kernel) ⟨show 0 + 1 ≤ F2 by omega, show 8 + (3 + 11) + 0 ≤ Lo2 by omega⟩, (hts (.static yX3_put) (by decide +kernel)), trivial⟩ ⟨zPw_blind, zPw_mk hE hP hD⟩ rfl rfl hl.1 rfl (lv_room (Nat.le_of_ble_eq_true rfl)) dX2_tryFrom_124 ⟨Nat.le_of_ble_eq_true rfl, Nat.le_of_ble_eq_true rfl⟩) hD hS hA (fun H locs hP hD hS => ?_)
      have hP : va_P D vwCl (cws cI cL cE cP ad g n k us wb (zput 8 (zput 8 tr (nI (i)) ((zat 8 tr (nI (i))) ||| ((1 : Int32) <<< ((nI pp) &&& 31)))) (nI (i)) (zat 8 tr (nI (i)))) pr le (nI n) (nI k)) H := zP_re hP (cws_s8).symm
      have hD : va_D A (cws cI cL cE cP ad g n k us wb (zput 8 (zput 8 tr (nI (i)) ((zat 8 tr (nI (i))) ||| ((1 : Int32) <<< ((nI pp) &&& 31)))) (nI (i)) (zat 8 tr (nI (i)))) pr le (nI n) (nI k)) := zD_re hD (cws_s8).symm
      refine lv_iinc (v := nI ((i) + 1)) (lv' := [(4, .int (nI ((i) + 1))), (3, .int (if tfF us wb n d (pp + 1) (zput 8 tr (nI (i)) ((zat 8 tr (nI (i))) ||| ((1 : Int32) <<< ((nI pp) &&& 31)))) (sum + ((zat 256 wb ((nI (i)) * 32 + ((zat 8 tr (nI (i))) ||| ((1 : Int32) <<< ((nI pp) &&& 31))))) - (zat 256 wb ((nI (i)) * 32 + (zat 8 tr (nI (i))))))) < zfm (fun e => zhas (zat 8 us (nI e)) (nI pp)) (fun e => tfF us wb n d (pp + 1) (zput 8 tr (nI e) (zat 8 tr (nI e) ||| ((1 : Int32) <<< (nI pp &&& 31)))) (sum + (zat 256 wb (nI e * 32 + (zat 8 tr (nI e) ||| ((1 : Int32) <<< (nI pp &&& 31)))) - zat 256 wb (nI e * 32 + zat 8 tr (nI e))))) (tfF us wb n d (pp + 1) tr sum) (i) then tfF us wb n d (pp + 1) (zput 8 tr (nI (i)) ((zat 8 tr (nI (i))) ||| ((1 : Int32) <<< ((nI pp) &&& 31)))) (sum + ((zat 256 wb ((nI (i)) * 32 + ((zat 8 tr (nI (i))) ||| ((1 : Int32) <<< ((nI pp) &&& 31))))) - (zat 256 wb ((nI (i)) * 32 + (zat 8 tr (nI (i))))))) else zfm (fun e => zhas (zat 8 us (nI e)) (nI pp)) (fun e => tfF us wb n d (pp + 1) (zput 8 tr (nI e) (zat 8 tr (nI e) ||| ((1 : Int32) <<< (nI pp &&& 31)))) (sum + (zat 256 wb (nI e * 32 + (zat 8 tr (nI e) ||| ((1 : Int32) <<< (nI pp &&& 31)))) - zat 256 wb (nI e * 32 + zat 8 tr (nI e))))) (tfF us wb n d (pp + 1) tr sum) (i))), (7, .int ((zat 256 wb ((nI (i)) * 32 + ((zat 8 tr (nI (i))) ||| ((1 : Int32) <<< ((nI pp) &&& 31))))) - (zat 256 wb ((nI (i)) * 32 + (zat 8 tr (nI (i))))))), (6, .int ((zat 8 tr (nI (i))) ||| ((1 : Int32) <<< ((nI pp) &&& 31)))), (5, .int (zat 8 tr (nI (i)))), (0, .ref (ad 5)), (1, .int (nI pp)), (2, .int sum)]) hx hb dX2_tryFrom_127 hl (k := 7) rfl (zinc _) (by decide) rfl (fun ls hl => ?_)
      refine lv_goto (tgt := 26) hx hb dX2_tryFrom_130 (by decide) ?_
      exact ih_26 H locs ls (zP_re hP (by first | rfl | rw [zput_back (show i < 8 by have := hok.n; omega) (by decide)])) (zD_re hD (by first | rfl | rw [zput_back (show i < 8 by have := hok.n; omega) (by decide)])) hS (lv_re (lv_sub hl [5, 6, 7, 1, 0] rfl) (by first | rfl | (simp only [tfF, zfm, c_1, c_2, c_6, c_11]; done) | (simp only [tfF, zfm, c_1, c_2, c_6, c_11]; rfl) | (simp [tfF, zfm, c_1, c_2, c_6, c_11]; done)))
theorem zX2_tryFrom (l : Launch) (D : va_G) (cI cL cE cP : ClassId) (ad : Nat → Nat) (g : Nat → Nat → Int32) (n k : Nat) (us wb tr : Nat → Int32) (pr le : Nat → Int64) (hok : zOk g n k) : ∀ (d pp : Nat) (tr : Nat → Int32) (sum : Int32) (sz : Nat), pp + d = k → Met l yX2_tryFrom wsX2_tryFrom ({ frames := d + 5, cells := 0, slots := 0, locals := 100 * (d + 1) }) (zPw D cI cL cE cP (cws cI cL cE cP ad g n k us wb tr pr le (nI n) (nI k)) sz [.ref (ad 5), .int (nI pp), .int sum]) (zQi D (cws cI cL cE cP ad g n k us wb tr pr le (nI n) (nI k)) sz (fun r : Int32 => r = tfF us wb n d pp tr sum) (cws cI cL cE cP ad g n k us wb tr pr le (nI n) (nI k))) 0 0 (va_A (cws cI cL cE cP ad g n k us wb tr pr le (nI n) (nI k)) sz)
  | 0, pp, tr, sum, sz, h => by
    have h : pp = k := h
    subst h
    exact zX2_tryFrom0 l D cI cL cE cP ad g n pp us wb tr pr le hok sum sz
  | d + 1, pp, tr, sum, sz, h => zX2_tryFromS l D cI cL cE cP ad g n k us wb tr pr le hok sum (d + 5) (100 * (d + 1)) (d + 1 + 5) (100 * (d + 1 + 1)) d pp (by omega) (by omega) (by omega) (by omega) (fun tr sum sz => zX2_tryFrom l D cI cL cE cP ad g n k us wb tr pr le hok d (pp + 1) tr sum sz (by omega)) sz
set_option maxHeartbeats 4000000 in
set_option maxRecDepth 100000 in
theorem zX2_triedWhole (l : Launch) (D : va_G) (cI cL cE cP : ClassId) (ad : Nat → Nat) (g : Nat → Nat → Int32) (n k : Nat) (us wb tr : Nat → Int32) (pr le : Nat → Int64) (hok : zOk g n k) (sz : Nat) : Met l yX2_triedWhole wsX2_triedWhole ({ frames := 12, cells := 0, slots := 0, locals := 700 }) (zPw D cI cL cE cP (cws cI cL cE cP ad g n k us wb tr pr le (nI n) (nI k)) sz [.ref (ad 5)]) (zQi D (cws cI cL cE cP ad g n k us wb tr pr le (nI n) (nI k)) sz (fun r : Int32 => r = tfF us wb n k 0 (trL tr n) (twL wb n)) (cws cI cL cE cP ad g n k us wb (trL tr n) pr le (nI n) (nI k))) 0 0 (va_A (cws cI cL cE cP ad g n k us wb tr pr le (nI n) (nI k)) sz) := by
  refine Met.ofW (cc := cX2_triedWhole) (maxL := 3) (ret := (some .int)) (by decide) rfl ?_
  intro p e s m args below meth c s₁ B hml hv
  obtain ⟨rfl, hsz, hE, hP, hD0⟩ := hv
  subst hsz
  obtain ⟨A, hAe⟩ : ∃ A, A = va_A (cws cI cL cE cP ad g n k us wb tr pr le (nI n) (nI k)) s.heap.size := ⟨_, rfl⟩
  have hD : va_D A (cws cI cL cE cP ad g n k us wb tr pr le (nI n) (nI k)) := by rw [hAe]; exact hD0.self
  have hA : ∀ q : Nat, s.heap.size ≤ q → A q := fun q h => by rw [hAe]; exact Or.inr h
  have hS : va_S A s.heap s.heap [] := va_S.rf
  have hx := B.exec
  have hb := B.bytes
  have hr := B.returns
  have hts := atoms_spec (ws := wsX2_triedWhole) B.pre
  have hown : s.vm.findClass RX2 = some m.cls := findClass_of_methodNamed B.named
  have hlocks := B.notSynchronized
  have hK := hE.1
  have iX2 : ∀ w ∈ wsX20, w ∈ wsX2_triedWhole := by decide +kernel
  have hl := lv_entry ([.ref (ad 5)]) (n := 3) (Nat.le_of_ble_eq_true rfl)
  rw [lg_entry_eq]
  generalize (lg_sl ([.ref (ad 5)]) ++ List.replicate (3 - (lg_sl ([.ref (ad 5)])).length) Slot.unset).toArray = ls at hl ⊢
  have hl : lv_has ls 3 [(0, .ref (ad 5))] := hl
  refine lv_iconst (v := 0) hx hb dX2_triedWhole_0 (by decide) ?_
  refine lv_istore_n (lv' := [(1, .int 0), (0, .ref (ad 5))]) hx hb dX2_triedWhole_1 rfl hl (by decide) rfl (fun ls hl => ?_)
  refine lv_iconst (v := 0) hx hb dX2_triedWhole_2 (by decide) ?_
  refine lv_istore_n (lv' := [(2, .int 0), (1, .int 0), (0, .ref (ad 5))]) hx hb dX2_triedWhole_3 rfl hl (by decide) rfl (fun ls hl => ?_)
  refine zloopM (nL := 3) (lv := fun i => [(0, .ref (ad 5)), (1, .int (twL wb (i))), (2, .int (nI (i)))]) (wd := fun i => cws cI cL cE cP ad g n k us wb (trL tr (i)) pr le (nI n) (nI k)) (n := n) (lv_re (lv_sub hl [2, 1, 0] rfl) (by first | rfl | (simp only [trL, twL, nI_0]; done) | (simp only [trL, twL, nI_0]; rfl) | (simp [trL, twL, nI_0]; done))) (zP_re hP (rfl)) (zD_re hD (rfl)) hS (fun H locs ls hP hD hS hl => ?_) (fun i hi ih_4 H locs ls hP hD hS hl => ?_)
  · have hl : lv_has ls 3 [(0, .ref (ad 5)), (1, .int (twL wb (n))), (2, .int (nI (n)))] := hl
    have hP : va_P D vwCl (cws cI cL cE cP ad g n k us wb (trL tr (n)) pr le (nI n) (nI k)) H := hP
    have hD : va_D A (cws cI cL cE cP ad g n k us wb (trL tr (n)) pr le (nI n) (nI k)) := hD
    refine lv_iload_n hx hb dX2_triedWhole_4 rfl (lv_at hl 2 rfl) ?_
    refine lv_aload_n hx hb dX2_triedWhole_5 rfl (lv_at hl 0 rfl) ?_
    refine va_get (D := D) (ci := 2) (v := .int (nI n)) (C := RX2) (T := TX2) (N := 7) hx hb hts iX2 hown hK hP 5 cws_5 rfl 5 (by decide) (hts (.fieldLink RX2 34 "CapitalReckoner$Search" "takers" "I") (by decide +kernel)) (fun _ h9 => h9) rfl dX2_triedWhole_6 ?_
    refine lv_icmp_ge (tgt := 36) hx hb dX2_triedWhole_9 (by decide) (fun c_1 => ?_) (fun c_1 => absurd (zle_refl (nI n)) c_1)
    refine lv_aload_n hx hb dX2_triedWhole_36 rfl (lv_at hl 0 rfl) ?_
    refine lv_iconst (v := nI 0) hx hb dX2_triedWhole_37 (by decide +kernel) ?_
    refine lv_iload_n hx hb dX2_triedWhole_38 rfl (lv_at hl 1 rfl) ?_
    refine zcalli (va_runS (As := [.ref (ad 5), .int (nI 0), .int (twL wb (n))]) (rest := []) ⟨hx, hb, hml, hown, hts⟩ (zX2_tryFrom l D cI cL cE cP ad g n k us wb (trL tr (n)) pr le hok k 0 (trL tr (n)) (twL wb (n)) H.size (by omega)) (va_cwS 3 hts gX2_triedWhole_X2_tryFrom rfl rfl rfl (by decide +kernel) ⟨show (k + 5) + 1 ≤ 12 by have := hok.k; omega, show 8 +  (8 + 11) + 100 * (k + 1) ≤ 700 by have := hok.k; omega⟩) ⟨zPw_blind, zPw_mk hE hP hD⟩ rfl rfl hl.1 rfl (lv_room (Nat.le_of_ble_eq_true rfl)) dX2_triedWhole_39 ⟨Nat.le_of_ble_eq_true rfl, Nat.le_of_ble_eq_true rfl⟩) hD hS hA (fun r_2 H locs e_3 hP hD hS => ?_)
    obtain rfl := e_3
    have hP : va_P D vwCl (cws cI cL cE cP ad g n k us wb (trL tr (n)) pr le (nI n) (nI k)) H := hP
    have hD : va_D A (cws cI cL cE cP ad g n k us wb (trL tr (n)) pr le (nI n) (nI k)) := hD
    exact ziret (v := tfF us wb n k 0 (trL tr (n)) (twL wb (n))) hx hb hr hAe (by first | rfl | (simp only [trL, twL, c_1]; done) | (simp only [trL, twL, c_1]; rfl) | (simp [trL, twL, c_1]; done)) (zP_re hP (by first | rfl | (simp only [trL, twL, c_1]; done) | (simp only [trL, twL, c_1]; rfl) | (simp [trL, twL, c_1]; done))) (zD_re hD (by first | rfl | (simp only [trL, twL, c_1]; done) | (simp only [trL, twL, c_1]; rfl) | (simp [trL, twL, c_1]; done))) hS dX2_triedWhole_42
  · have hl : lv_has ls 3 [(0, .ref (ad 5)), (1, .int (twL wb (i))), (2, .int (nI (i)))] := hl
    have hP : va_P D vwCl (cws cI cL cE cP ad g n k us wb (trL tr (i)) pr le (nI n) (nI k)) H := hP
    have hD : va_D A (cws cI cL cE cP ad g n k us wb (trL tr (i)) pr le (nI n) (nI k)) := hD
    refine lv_iload_n hx hb dX2_triedWhole_4 rfl (lv_at hl 2 rfl) ?_
    refine lv_aload_n hx hb dX2_triedWhole_5 rfl (lv_at hl 0 rfl) ?_
    refine va_get (D := D) (ci := 2) (v := .int (nI n)) (C := RX2) (T := TX2) (N := 7) hx hb hts iX2 hown hK hP 5 cws_5 rfl 5 (by decide) (hts (.fieldLink RX2 34 "CapitalReckoner$Search" "takers" "I") (by decide +kernel)) (fun _ h9 => h9) rfl dX2_triedWhole_6 ?_
    refine lv_icmp_ge (tgt := 36) hx hb dX2_triedWhole_9 (by decide) (fun c_4 => absurd c_4 (nI_ge hi (by have := hok.n; omega))) (fun c_4 => ?_)
    refine lv_aload_n hx hb dX2_triedWhole_12 rfl (lv_at hl 0 rfl) ?_
    refine va_get (D := D) (ci := 2) (v := .ref (ad 8)) (C := RX2) (T := TX2) (N := 7) hx hb hts iX2 hown hK hP 5 cws_5 rfl 2 (by decide) (hts (.fieldLink RX2 18 "CapitalReckoner$Search" "tried" "[I") (by decide +kernel)) (fun _ h9 => h9) rfl dX2_triedWhole_13 ?_
    refine lv_iload_n hx hb dX2_triedWhole_16 rfl (lv_at hl 2 rfl) ?_
    refine lv_iconst (v := 0) hx hb dX2_triedWhole_17 (by decide) ?_
    refine zcallv (va_runSN (As := [.ref (ad 8), .int (nI (i)), .int 0]) (rest := []) ⟨hx, hb, hml, hown, hts⟩ (zX3_put l D cI cL cE cP (cws cI cL cE cP ad g n k us wb (trL tr (i)) pr le (nI n) (nI k)) 8 (ad 8) 8 (trL tr (i)) (by decide) cws_8 (nI (i)) (0) H.size) ⟨va_cnB 3 hts gX2_triedWhole_X3_put_n41 rfl rfl rfl (hE.2 (.methodLinkNest RX2 41 yX3_put RX3) (List.mem_of_getElem? (i := 3) rfl)) (hts (.initialized RX3) (by decide +kernel)) (by decide +kernel) ⟨show 0 + 1 ≤ 12 by have := hok.k; omega, show 8 + (3 + 11) + 0 ≤ 700 by have := hok.k; omega⟩, (hts (.static yX3_put) (by decide +kernel)), trivial⟩ ⟨zPw_blind, zPw_mk hE hP hD⟩ rfl rfl hl.1 rfl (lv_room (Nat.le_of_ble_eq_true rfl)) dX2_triedWhole_18 ⟨Nat.le_of_ble_eq_true rfl, Nat.le_of_ble_eq_true rfl⟩) hD hS hA (fun H locs hP hD hS => ?_)
    have hP : va_P D vwCl (cws cI cL cE cP ad g n k us wb (zput 8 (trL tr (i)) (nI (i)) 0) pr le (nI n) (nI k)) H := zP_re hP (cws_s8).symm
    have hD : va_D A (cws cI cL cE cP ad g n k us wb (zput 8 (trL tr (i)) (nI (i)) 0) pr le (nI n) (nI k)) := zD_re hD (cws_s8).symm
    refine lv_iload_n hx hb dX2_triedWhole_21 rfl (lv_at hl 1 rfl) ?_
    refine lv_aload_n hx hb dX2_triedWhole_22 rfl (lv_at hl 0 rfl) ?_
    refine lv_iload_n hx hb dX2_triedWhole_23 rfl (lv_at hl 2 rfl) ?_
    refine lv_iconst (v := 0) hx hb dX2_triedWhole_24 (by decide) ?_
    refine vp_callSi (va_Run.run (va_runV (As := [.int (nI (i)), .int 0]) (rest := [.int (twL wb (i))]) ⟨hx, hb, hml, hown, hts⟩ (zX2_weightedWith l D cI cL cE cP ad g n k us wb (zput 8 (trL tr (i)) (nI (i)) 0) pr le (nI n) (nI k) hok (nI (i)) (0)) (cwV 2 hts gX2_triedWhole_X2_weightedWith rfl rfl rfl (by decide +kernel) ⟨show 1 + 1 ≤ 12 by have := hok.k; omega, show 8 + (3 + 11) + 21 ≤ 700 by have := hok.k; omega⟩) ⟨zPr_blind, va_recv hK hP (ci := 2) (q0 := 5) rfl cws_5, zPr_mk hE hP⟩ rfl rfl hl.1 rfl (lv_room (Nat.le_of_ble_eq_true rfl)) dX2_triedWhole_25 ⟨Nat.le_of_ble_eq_true rfl, Nat.le_of_ble_eq_true rfl⟩)) (fun r_7 e_8 => ?_)
    obtain rfl := e_8
    refine lv_iadd hx hb dX2_triedWhole_28 ?_
    refine lv_istore_n (lv' := [(1, .int ((twL wb (i)) + (zat 256 wb ((nI (i)) * 32 + 0)))), (0, .ref (ad 5)), (2, .int (nI (i)))]) hx hb dX2_triedWhole_29 rfl hl (by decide) rfl (fun ls hl => ?_)
    refine lv_iinc (v := nI ((i) + 1)) (lv' := [(2, .int (nI ((i) + 1))), (1, .int ((twL wb (i)) + (zat 256 wb ((nI (i)) * 32 + 0)))), (0, .ref (ad 5))]) hx hb dX2_triedWhole_30 hl (k := 2) rfl (zinc _) (by decide) rfl (fun ls hl => ?_)
    refine lv_goto (tgt := 4) hx hb dX2_triedWhole_33 (by decide) ?_
    exact ih_4 H locs ls (zP_re hP (by rfl)) (zD_re hD (by rfl)) hS (lv_re (lv_sub hl [2, 1, 0] rfl) (by first | rfl | (simp only [trL, twL, c_4]; done) | (simp only [trL, twL, c_4]; rfl) | (simp [trL, twL, c_4]; done)))
end
section
/-! the class's sums and its search as a whole -/
def bwL (g : Nat → Nat → Int32) (i : Nat) (set : Int32) : Nat → Int32
  | 0 => amt g i
  | j + 1 => if zhas set (nI j) = true then bwL g i set j - vl g j i else bwL g i set j
def bw (g : Nat → Nat → Int32) (k i : Nat) (set : Int32) : Int32 := if bwL g i set k < 0 then 0 else bwL g i set k
def wo (g : Nat → Nat → Int32) (i : Nat) (b : Int32) : Int32 := if zat 4 (g 0) (g 3 i) ≤ zat 4 (g 0) (g 9 i) then pct 0 (zat 4 (g 0) (g 9 i)) + pct (b - 0) (zat 4 (g 0) (g 3 i)) else pct (if g 10 i < b then g 10 i else b) (zat 4 (g 0) (g 9 i)) + pct (b - (if g 10 i < b then g 10 i else b)) (zat 4 (g 0) (g 3 i))
def usL (g : Nat → Nat → Int32) (e : Int32) : Nat → Int32
  | 0 => 0
  | j + 1 => if zhas (g 15 j) e = true then usL g e j ||| ((1 : Int32) <<< (nI j &&& 31)) else usL g e j
def US (g : Nat → Nat → Int32) (k : Nat) : Nat → Int32 := fun i => usL g (nI i) k
def WB (g : Nat → Nat → Int32) (k : Nat) : Nat → Int32 := fun j => wo g (j / 32) (bw g k (j / 32) (nI (j % 32)))
theorem US_step {g : Nat → Nat → Int32} {k i : Nat} {us : Nat → Int32} (hi : i < 8) : zput 8 (zfl (US g k) us i) (nI i) (usL g (nI i) k) = zfl (US g k) us (i + 1) := by
  rw [zput_nI hi (by decide)]; exact zfl_u (US g k) us i
theorem WB_step {g : Nat → Nat → Int32} {k i S : Nat} {wb : Nat → Int32} (hi : i < 8) (hS : S < 32) : zput 256 (zfl (WB g k) wb (32 * i + S)) ((nI i * 32) + nI S) (wo g i (bw g k i (nI S))) = zfl (WB g k) wb (32 * i + (S + 1)) := by
  have e : (nI i * 32) + nI S = nI (32 * i + S) := by
    have : (32 : Int32) = nI 32 := by decide +kernel
    rw [this, pk_mul, nI_add, Nat.mul_comm]
  rw [e, zput_nI (by omega) (by decide)]
  have h := zfl_u (WB g k) wb (32 * i + S)
  have h2 : WB g k (32 * i + S) = wo g i (bw g k i (nI S)) := by
    unfold WB
    rw [show (32 * i + S) / 32 = i by omega, show (32 * i + S) % 32 = S by omega]
  rw [h2] at h
  exact h
def bpL (g : Nat → Nat → Int32) (k : Nat) (le : Nat → Int64) (party : Int32) : Nat → Int32
  | 0 => 0
  | i + 1 => if g 4 i = party then bpL g k le party i + bw g k i (gsL le k (nI i) k) else bpL g k le party i
def plL (g : Nat → Nat → Int32) : Nat → Int32
  | 0 => 0
  | i + 1 => plL g i + pct (amt g i) (zat 4 (g 1) (g 3 i))
def tlL (g : Nat → Nat → Int32) (n k : Nat) (le : Nat → Int64) : Nat → Int32
  | 0 => 0
  | p + 1 => if bpL g k le (nI p) n ≤ g 2 1 / 4 then tlL g n k le p else tlL g n k le p ||| ((1 : Int32) <<< (nI p &&& 31))

set_option maxHeartbeats 4000000 in
set_option maxRecDepth 100000 in
theorem zX3_bareWith (l : Launch) (D : va_G) (cI cL cE cP : ClassId) (ad : Nat → Nat) (g : Nat → Nat → Int32) (n k : Nat) (us wb tr : Nat → Int32) (pr le : Nat → Int64) (tk gf : Int32) (hok : zOk g n k) (i : Nat) (hi : i < n) (set : Int32) : Met l yX3_bareWith wsX3_bareWith ({ frames := 2, cells := 0, slots := 0, locals := 43 }) (zPr D cI cL cE cP (cws cI cL cE cP ad g n k us wb tr pr le tk gf) [.ref (ad 0), .ref (ad (11 + i)), .int set]) (vp_Si (fun r : Int32 => r = bw g k i set)) 0 0 (fun _ => False) := by
  refine Met.ofW (cc := cX3_bareWith) (maxL := 6) (ret := (some .int)) (by decide) rfl ?_
  intro p e s m args below meth c s₁ B hml hv
  obtain ⟨rfl, hE, hP⟩ := hv
  have hx := B.exec
  have hb := B.bytes
  have hr := B.returns
  have hts := atoms_spec (ws := wsX3_bareWith) B.pre
  have hown : s.vm.findClass RX3 = some m.cls := findClass_of_methodNamed B.named
  have hlocks := B.notSynchronized
  have hK := hE.1
  have iX3 : ∀ w ∈ wsX30, w ∈ wsX3_bareWith := by decide +kernel
  have hl := lv_entry ([.ref (ad 0), .ref (ad (11 + i)), .int set]) (n := 6) (Nat.le_of_ble_eq_true rfl)
  rw [lg_entry_eq]
  generalize (lg_sl ([.ref (ad 0), .ref (ad (11 + i)), .int set]) ++ List.replicate (6 - (lg_sl ([.ref (ad 0), .ref (ad (11 + i)), .int set])).length) Slot.unset).toArray = ls at hl ⊢
  have hl : lv_has ls 6 [(0, .ref (ad 0)), (1, .ref (ad (11 + i))), (2, .int set)] := hl
  refine lv_aload_n hx hb dX3_bareWith_0 rfl (lv_at hl 1 rfl) ?_
  refine vp_callSi (va_Run.run (va_runVN (As := []) (rest := []) ⟨hx, hb, hml, hown, hts⟩ (zX0_amountNow l D cI cL cE cP ad g n k us wb tr pr le tk gf hok i hi) ⟨va_cnB 0 hts gX3_bareWith_X0_amountNow_n132 rfl rfl rfl (hE.2 (.methodLinkNest RX3 132 yX0_amountNow RX3) (List.mem_of_getElem? (i := 4) rfl)) (hts (.initialized RX0) (by decide +kernel)) (by decide +kernel) ⟨Nat.le_of_ble_eq_true rfl, Nat.le_of_ble_eq_true rfl⟩, (hts (.instanceMethod yX0_amountNow) (by decide +kernel)), (hts (.selects RX0 yX0_amountNow yX0_amountNow) (by decide +kernel))⟩ ⟨zPr_blind, va_recv hK hP (ci := 0) (q0 := (11 + i)) rfl (cws_E hi), zPr_mk hE hP⟩ rfl rfl hl.1 rfl (lv_room (Nat.le_of_ble_eq_true rfl)) dX3_bareWith_1 ⟨Nat.le_of_ble_eq_true rfl, Nat.le_of_ble_eq_true rfl⟩)) (fun r_1 e_2 => ?_)
  obtain rfl := e_2
  refine lv_istore_n (lv' := [(3, .int (amt g i)), (0, .ref (ad 0)), (1, .ref (ad (11 + i))), (2, .int set)]) hx hb dX3_bareWith_4 rfl hl (by decide) rfl (fun ls hl => ?_)
  refine lv_iconst (v := 0) hx hb dX3_bareWith_5 (by decide) ?_
  refine lv_istore (lv' := [(4, .int 0), (3, .int (amt g i)), (0, .ref (ad 0)), (1, .ref (ad (11 + i))), (2, .int set)]) hx hb dX3_bareWith_6 hl (by decide) rfl (fun ls hl => ?_)
  refine zloop (nL := 6) (lv := fun j => [(0, .ref (ad 0)), (1, .ref (ad (11 + i))), (2, .int set), (3, .int (bwL g i set (j))), (4, .int (nI (j)))]) (n := k) (lv_re (lv_sub hl [2, 3, 4, 1, 0] rfl) (by first | rfl | (simp only [bw, bwL, nI_0]; done) | (simp only [bw, bwL, nI_0]; rfl) | (simp [bw, bwL, nI_0]; done))) (fun ls hl => ?_) (fun j hj ih_8 ls hl => ?_)
  · have hl : lv_has ls 6 [(0, .ref (ad 0)), (1, .ref (ad (11 + i))), (2, .int set), (3, .int (bwL g i set (k))), (4, .int (nI (k)))] := hl
    refine lv_iload hx hb dX3_bareWith_8 (lv_at hl 4 rfl) ?_
    refine lv_aload_n hx hb dX3_bareWith_10 rfl (lv_at hl 0 rfl) ?_
    refine va_get (D := D) (ci := 3) (v := .int (nI k)) (C := RX3) (T := TX3) (N := 9) hx hb hts iX3 hown hK hP 0 cws_0 rfl 6 (by decide) (hts (.fieldLink RX3 39 "CapitalReckoner" "pieceCount" "I") (by decide +kernel)) (fun _ h9 => h9) rfl dX3_bareWith_11 ?_
    refine lv_icmp_ge (tgt := 54) hx hb dX3_bareWith_14 (by decide) (fun c_3 => ?_) (fun c_3 => absurd (zle_refl (nI k)) c_3)
    refine lv_iload_n hx hb dX3_bareWith_54 rfl (lv_at hl 3 rfl) ?_
    refine lv_iconst (v := 0) hx hb dX3_bareWith_55 (by decide) ?_
    refine va_mmax hx hb (hml.trans hl.1.symm) hown (hts (.methodLink RX3 208 Lib.Math.max.name) (by decide +kernel)) (hts (.static Lib.Math.max.name) (by decide +kernel)) (hts (.initialized "java/lang/Math") (by decide +kernel)) (hts (.code Lib.Math.max.name Lib.Math.max.code 2 (some .int)) (by decide +kernel)) (Nat.le_of_ble_eq_true rfl) (Nat.le_of_ble_eq_true rfl) (Nat.zero_le _) (Nat.zero_le _) dX3_bareWith_56 ?_
    exact W.iret (v := if bwL g i set (k) < 0 then 0 else bwL g i set (k)) hx hb hr (fun t ht hW => ⟨_, rfl, (by rfl), ht⟩) (fun _ h => nomatch h) dX3_bareWith_59
  · have hl : lv_has ls 6 [(0, .ref (ad 0)), (1, .ref (ad (11 + i))), (2, .int set), (3, .int (bwL g i set (j))), (4, .int (nI (j)))] := hl
    refine lv_iload hx hb dX3_bareWith_8 (lv_at hl 4 rfl) ?_
    refine lv_aload_n hx hb dX3_bareWith_10 rfl (lv_at hl 0 rfl) ?_
    refine va_get (D := D) (ci := 3) (v := .int (nI k)) (C := RX3) (T := TX3) (N := 9) hx hb hts iX3 hown hK hP 0 cws_0 rfl 6 (by decide) (hts (.fieldLink RX3 39 "CapitalReckoner" "pieceCount" "I") (by decide +kernel)) (fun _ h9 => h9) rfl dX3_bareWith_11 ?_
    refine lv_icmp_ge (tgt := 54) hx hb dX3_bareWith_14 (by decide) (fun c_4 => absurd c_4 (nI_ge hj (by have := hok.k; omega))) (fun c_4 => ?_)
    refine lv_aload_n hx hb dX3_bareWith_17 rfl (lv_at hl 0 rfl) ?_
    refine lv_iload hx hb dX3_bareWith_18 (lv_at hl 4 rfl) ?_
    refine va_csq (va_Run.run (va_runV (As := [.int (nI (j))]) (rest := []) ⟨hx, hb, hml, hown, hts⟩ (zX3_pieceAt l D cI cL cE cP ad g n k us wb tr pr le tk gf hok (nI (j))) (cwV 1 hts gX3_bareWith_X3_pieceAt rfl rfl rfl (by decide +kernel) ⟨Nat.le_of_ble_eq_true rfl, Nat.le_of_ble_eq_true rfl⟩) ⟨zPr_blind, va_recv hK hP (ci := 3) (q0 := 0) rfl cws_0, zPr_mk hE hP⟩ rfl rfl hl.1 rfl (lv_room (Nat.le_of_ble_eq_true rfl)) dX3_bareWith_20 ⟨Nat.le_of_ble_eq_true rfl, Nat.le_of_ble_eq_true rfl⟩)) (fun r_5 e_6 => ?_)
    obtain rfl := zpi_known e_6 hj hok
    refine lv_astore (lv' := [(5, .ref (ad (19 + j))), (0, .ref (ad 0)), (1, .ref (ad (11 + i))), (2, .int set), (3, .int (bwL g i set (j))), (4, .int (nI (j)))]) hx hb dX3_bareWith_23 hl (by decide) rfl (fun ls hl => ?_)
    refine lv_aload hx hb dX3_bareWith_25 (lv_at hl 0 rfl) ?_
    refine lv_ifnull hx hb dX3_bareWith_27 ?_
    refine lv_iload_n hx hb dX3_bareWith_30 rfl (lv_at hl 3 rfl) ?_
    refine lv_iload hx hb dX3_bareWith_31 (lv_at hl 5 rfl) ?_
    refine vp_callSi (va_Run.run (va_runS (As := [.int set, .int (nI (j))]) (rest := []) ⟨hx, hb, hml, hown, hts⟩ (zX3_has l D cI cL cE cP (cws cI cL cE cP ad g n k us wb tr pr le tk gf) set (nI (j))) (va_cwS 2 hts gX3_bareWith_X3_has rfl rfl rfl (by decide +kernel) ⟨Nat.le_of_ble_eq_true rfl, Nat.le_of_ble_eq_true rfl⟩) ⟨zPr_blind, zPr_mk hE hP⟩ rfl rfl hl.1 rfl (lv_room (Nat.le_of_ble_eq_true rfl)) dX3_bareWith_33 ⟨Nat.le_of_ble_eq_true rfl, Nat.le_of_ble_eq_true rfl⟩)) (fun r_7 e_8 => ?_)
    obtain rfl := e_8
    refine lv_if_eq (tgt := 48) hx hb dX3_bareWith_36 (by decide) (fun c_9 => ?_) (fun c_9 => ?_)
    · have c_9 := zb_eq c_9
      refine lv_iinc (v := nI ((j) + 1)) (lv' := [(4, .int (nI ((j) + 1))), (5, .ref (ad (19 + j))), (0, .ref (ad 0)), (1, .ref (ad (11 + i))), (2, .int set), (3, .int (bwL g i set (j)))]) hx hb dX3_bareWith_48 hl (k := 5) rfl (zinc _) (by decide) rfl (fun ls hl => ?_)
      refine lv_goto (tgt := 8) hx hb dX3_bareWith_51 (by decide) ?_
      exact ih_8 ls (lv_re (lv_sub hl [2, 3, 4, 5, 0] rfl) (by first | rfl | (simp only [bw, bwL, c_4, c_9]; done) | (simp only [bw, bwL, c_4, c_9]; rfl) | (simp [bw, bwL, c_4, c_9]; done)))
    · have c_9 := zb_ne c_9
      refine lv_iload_n hx hb dX3_bareWith_39 rfl (lv_at hl 4 rfl) ?_
      refine lv_aload hx hb dX3_bareWith_40 (lv_at hl 0 rfl) ?_
      refine lv_aload_n hx hb dX3_bareWith_42 rfl (lv_at hl 2 rfl) ?_
      refine vp_callSi (va_Run.run (va_runVN (As := [.ref (ad (11 + i))]) (rest := [.int (bwL g i set (j))]) ⟨hx, hb, hml, hown, hts⟩ (zX1_valueFor l D cI cL cE cP ad g n k us wb tr pr le tk gf hok j hj i hi) ⟨va_cnB 1 hts gX3_bareWith_X1_valueFor_n165 rfl rfl rfl (hE.2 (.methodLinkNest RX3 165 yX1_valueFor RX3) (List.mem_of_getElem? (i := 6) rfl)) (hts (.initialized RX1) (by decide +kernel)) (by decide +kernel) ⟨Nat.le_of_ble_eq_true rfl, Nat.le_of_ble_eq_true rfl⟩, (hts (.instanceMethod yX1_valueFor) (by decide +kernel)), (hts (.selects RX1 yX1_valueFor yX1_valueFor) (by decide +kernel))⟩ ⟨zPr_blind, va_recv hK hP (ci := 1) (q0 := (11 + n + j)) rfl (cws_P hj), zPr_mk hE hP⟩ rfl rfl hl.1 rfl (lv_room (Nat.le_of_ble_eq_true rfl)) dX3_bareWith_43 ⟨Nat.le_of_ble_eq_true rfl, Nat.le_of_ble_eq_true rfl⟩)) (fun r_10 e_11 => ?_)
      obtain rfl := e_11
      refine lv_isub hx hb dX3_bareWith_46 ?_
      refine lv_istore_n (lv' := [(3, .int ((bwL g i set (j)) - (vl g j i))), (5, .ref (ad (19 + j))), (0, .ref (ad 0)), (1, .ref (ad (11 + i))), (2, .int set), (4, .int (nI (j)))]) hx hb dX3_bareWith_47 rfl hl (by decide) rfl (fun ls hl => ?_)
      refine lv_iinc (v := nI ((j) + 1)) (lv' := [(4, .int (nI ((j) + 1))), (3, .int ((bwL g i set (j)) - (vl g j i))), (5, .ref (ad (19 + j))), (0, .ref (ad 0)), (1, .ref (ad (11 + i))), (2, .int set)]) hx hb dX3_bareWith_48 hl (k := 5) rfl (zinc _) (by decide) rfl (fun ls hl => ?_)
      refine lv_goto (tgt := 8) hx hb dX3_bareWith_51 (by decide) ?_
      exact ih_8 ls (lv_re (lv_sub hl [3, 4, 5, 1, 0] rfl) (by first | rfl | (simp only [bw, bwL, c_4, c_9]; done) | (simp only [bw, bwL, c_4, c_9]; rfl) | (simp [bw, bwL, c_4, c_9]; done)))
set_option maxHeartbeats 4000000 in
set_option maxRecDepth 100000 in
theorem zX3_weightedOf (l : Launch) (D : va_G) (cI cL cE cP : ClassId) (ad : Nat → Nat) (g : Nat → Nat → Int32) (n k : Nat) (us wb tr : Nat → Int32) (pr le : Nat → Int64) (tk gf : Int32) (hok : zOk g n k) (i : Nat) (hi : i < n) (b0 : Int32) : Met l yX3_weightedOf wsX3_weightedOf ({ frames := 1, cells := 0, slots := 0, locals := 24 }) (zPr D cI cL cE cP (cws cI cL cE cP ad g n k us wb tr pr le tk gf) [.ref (ad 0), .ref (ad (11 + i)), .int b0]) (vp_Si (fun r : Int32 => r = wo g i b0)) 0 0 (fun _ => False) := by
  refine Met.ofW (cc := cX3_weightedOf) (maxL := 6) (ret := (some .int)) (by decide) rfl ?_
  intro p e s m args below meth c s₁ B hml hv
  obtain ⟨rfl, hE, hP⟩ := hv
  have hx := B.exec
  have hb := B.bytes
  have hr := B.returns
  have hts := atoms_spec (ws := wsX3_weightedOf) B.pre
  have hown : s.vm.findClass RX3 = some m.cls := findClass_of_methodNamed B.named
  have hlocks := B.notSynchronized
  have hK := hE.1
  have iX0 : ∀ w ∈ wsX00, w ∈ wsX3_weightedOf := by decide +kernel
  have iX3 : ∀ w ∈ wsX30, w ∈ wsX3_weightedOf := by decide +kernel
  have hl := lv_entry ([.ref (ad 0), .ref (ad (11 + i)), .int b0]) (n := 6) (Nat.le_of_ble_eq_true rfl)
  rw [lg_entry_eq]
  generalize (lg_sl ([.ref (ad 0), .ref (ad (11 + i)), .int b0]) ++ List.replicate (6 - (lg_sl ([.ref (ad 0), .ref (ad (11 + i)), .int b0])).length) Slot.unset).toArray = ls at hl ⊢
  have hl : lv_has ls 6 [(0, .ref (ad 0)), (1, .ref (ad (11 + i))), (2, .int b0)] := hl
  refine lv_aload_n hx hb dX3_weightedOf_0 rfl (lv_at hl 0 rfl) ?_
  refine va_get (D := D) (ci := 3) (v := .ref (ad 1)) (C := RX3) (T := TX3) (N := 9) hx hb hts iX3 hown hK hP 0 cws_0 rfl 0 (by decide) (hts (.fieldLink RX3 7 "CapitalReckoner" "weights" "[I") (by decide +kernel)) (fun _ h9 => h9) rfl dX3_weightedOf_1 ?_
  refine lv_aload_n hx hb dX3_weightedOf_4 rfl (lv_at hl 1 rfl) ?_
  refine va_getN (D := D) (ci := 0) (v := .int (g 3 i)) (C := RX0) (T := TX0) (N := 8) hx hb hts iX0 hown hK hP (11 + i) (cws_E hi) rfl 3 (by decide) (va_Nw.use rfl (hE.2 (.fieldLinkNest RX3 123 "CapitalReckoner$Exposure" "kind" "I" RX3) (List.mem_of_getElem? (i := 22) rfl))) (fun _ h9 => h9) rfl dX3_weightedOf_5 ?_
  refine vp_callSi (va_Run.run (va_runS (As := [.ref (ad 1), .int (g 3 i)]) (rest := []) ⟨hx, hb, hml, hown, hts⟩ (zX3_at l D cI cL cE cP (cws cI cL cE cP ad g n k us wb tr pr le tk gf) 1 (ad 1) 4 (g 0) (by decide) cws_1 (g 3 i)) (va_cwS 2 hts gX3_weightedOf_X3_at rfl rfl rfl (by decide +kernel) ⟨Nat.le_of_ble_eq_true rfl, Nat.le_of_ble_eq_true rfl⟩) ⟨zPr_blind, zPr_mk hE hP⟩ rfl rfl hl.1 rfl (lv_room (Nat.le_of_ble_eq_true rfl)) dX3_weightedOf_8 ⟨Nat.le_of_ble_eq_true rfl, Nat.le_of_ble_eq_true rfl⟩)) (fun r_1 e_2 => ?_)
  obtain rfl := e_2
  refine lv_istore_n (lv' := [(3, .int (zat 4 (g 0) (g 3 i))), (0, .ref (ad 0)), (1, .ref (ad (11 + i))), (2, .int b0)]) hx hb dX3_weightedOf_11 rfl hl (by decide) rfl (fun ls hl => ?_)
  refine lv_aload_n hx hb dX3_weightedOf_12 rfl (lv_at hl 1 rfl) ?_
  refine va_get (D := D) (ci := 3) (v := .ref (ad 1)) (C := RX3) (T := TX3) (N := 9) hx hb hts iX3 hown hK hP 0 cws_0 rfl 0 (by decide) (hts (.fieldLink RX3 7 "CapitalReckoner" "weights" "[I") (by decide +kernel)) (fun _ h9 => h9) rfl dX3_weightedOf_13 ?_
  refine lv_aload_n hx hb dX3_weightedOf_16 rfl (lv_at hl 2 rfl) ?_
  refine va_getN (D := D) (ci := 0) (v := .int (g 9 i)) (C := RX0) (T := TX0) (N := 8) hx hb hts iX0 hown hK hP (11 + i) (cws_E hi) rfl 6 (by decide) (va_Nw.use rfl (hE.2 (.fieldLinkNest RX3 129 "CapitalReckoner$Exposure" "guaranteeKind" "I" RX3) (List.mem_of_getElem? (i := 25) rfl))) (fun _ h9 => h9) rfl dX3_weightedOf_17 ?_
  refine vp_callSi (va_Run.run (va_runS (As := [.ref (ad 1), .int (g 9 i)]) (rest := []) ⟨hx, hb, hml, hown, hts⟩ (zX3_at l D cI cL cE cP (cws cI cL cE cP ad g n k us wb tr pr le tk gf) 1 (ad 1) 4 (g 0) (by decide) cws_1 (g 9 i)) (va_cwS 2 hts gX3_weightedOf_X3_at rfl rfl rfl (by decide +kernel) ⟨Nat.le_of_ble_eq_true rfl, Nat.le_of_ble_eq_true rfl⟩) ⟨zPr_blind, zPr_mk hE hP⟩ rfl rfl hl.1 rfl (lv_room (Nat.le_of_ble_eq_true rfl)) dX3_weightedOf_20 ⟨Nat.le_of_ble_eq_true rfl, Nat.le_of_ble_eq_true rfl⟩)) (fun r_3 e_4 => ?_)
  obtain rfl := e_4
  refine lv_istore (lv' := [(4, .int (zat 4 (g 0) (g 9 i))), (3, .int (zat 4 (g 0) (g 3 i))), (0, .ref (ad 0)), (1, .ref (ad (11 + i))), (2, .int b0)]) hx hb dX3_weightedOf_23 hl (by decide) rfl (fun ls hl => ?_)
  refine lv_iload hx hb dX3_weightedOf_25 (lv_at hl 0 rfl) ?_
  refine lv_iload_n hx hb dX3_weightedOf_27 rfl (lv_at hl 1 rfl) ?_
  refine lv_icmp_ge (tgt := 42) hx hb dX3_weightedOf_28 (by decide) (fun c_5 => ?_) (fun c_5 => ?_)
  · refine lv_iconst (v := 0) hx hb dX3_weightedOf_42 (by decide) ?_
    refine lv_istore (lv' := [(5, .int 0), (4, .int (zat 4 (g 0) (g 9 i))), (3, .int (zat 4 (g 0) (g 3 i))), (0, .ref (ad 0)), (1, .ref (ad (11 + i))), (2, .int b0)]) hx hb dX3_weightedOf_43 hl (by decide) rfl (fun ls hl => ?_)
    refine lv_iload hx hb dX3_weightedOf_45 (lv_at hl 0 rfl) ?_
    refine lv_iload hx hb dX3_weightedOf_47 (lv_at hl 1 rfl) ?_
    refine vp_callSi (va_Run.run (va_runS (As := [.int 0, .int (zat 4 (g 0) (g 9 i))]) (rest := []) ⟨hx, hb, hml, hown, hts⟩ (zX3_percentOf l D cI cL cE cP (cws cI cL cE cP ad g n k us wb tr pr le tk gf) 0 (zat 4 (g 0) (g 9 i))) (va_cwS 2 hts gX3_weightedOf_X3_percentOf rfl rfl rfl (by decide +kernel) ⟨Nat.le_of_ble_eq_true rfl, Nat.le_of_ble_eq_true rfl⟩) ⟨zPr_blind, zPr_mk hE hP⟩ rfl rfl hl.1 rfl (lv_room (Nat.le_of_ble_eq_true rfl)) dX3_weightedOf_49 ⟨Nat.le_of_ble_eq_true rfl, Nat.le_of_ble_eq_true rfl⟩)) (fun r_6 e_7 => ?_)
    obtain rfl := e_7
    refine lv_iload_n hx hb dX3_weightedOf_52 rfl (lv_at hl 5 rfl) ?_
    refine lv_iload hx hb dX3_weightedOf_53 (lv_at hl 0 rfl) ?_
    refine lv_isub hx hb dX3_weightedOf_55 ?_
    refine lv_iload_n hx hb dX3_weightedOf_56 rfl (lv_at hl 2 rfl) ?_
    refine vp_callSi (va_Run.run (va_runS (As := [.int (b0 - 0), .int (zat 4 (g 0) (g 3 i))]) (rest := [.int (pct 0 (zat 4 (g 0) (g 9 i)))]) ⟨hx, hb, hml, hown, hts⟩ (zX3_percentOf l D cI cL cE cP (cws cI cL cE cP ad g n k us wb tr pr le tk gf) (b0 - 0) (zat 4 (g 0) (g 3 i))) (va_cwS 2 hts gX3_weightedOf_X3_percentOf rfl rfl rfl (by decide +kernel) ⟨Nat.le_of_ble_eq_true rfl, Nat.le_of_ble_eq_true rfl⟩) ⟨zPr_blind, zPr_mk hE hP⟩ rfl rfl hl.1 rfl (lv_room (Nat.le_of_ble_eq_true rfl)) dX3_weightedOf_57 ⟨Nat.le_of_ble_eq_true rfl, Nat.le_of_ble_eq_true rfl⟩)) (fun r_8 e_9 => ?_)
    obtain rfl := e_9
    refine lv_iadd hx hb dX3_weightedOf_60 ?_
    exact W.iret (v := (pct 0 (zat 4 (g 0) (g 9 i))) + (pct (b0 - 0) (zat 4 (g 0) (g 3 i)))) hx hb hr (fun t ht hW => ⟨_, rfl, (by first | rfl | (simp only [wo, c_5]; done) | (simp only [wo, c_5]; rfl) | (simp [wo, c_5]; done)), ht⟩) (fun _ h => nomatch h) dX3_weightedOf_61
  · refine lv_iload_n hx hb dX3_weightedOf_31 rfl (lv_at hl 4 rfl) ?_
    refine lv_aload_n hx hb dX3_weightedOf_32 rfl (lv_at hl 3 rfl) ?_
    refine va_getN (D := D) (ci := 0) (v := .int (g 10 i)) (C := RX0) (T := TX0) (N := 8) hx hb hts iX0 hown hK hP (11 + i) (cws_E hi) rfl 7 (by decide) (va_Nw.use rfl (hE.2 (.fieldLinkNest RX3 126 "CapitalReckoner$Exposure" "guaranteeSum" "I" RX3) (List.mem_of_getElem? (i := 26) rfl))) (fun _ h9 => h9) rfl dX3_weightedOf_33 ?_
    refine va_mmin hx hb (hml.trans hl.1.symm) hown (hts (.methodLink RX3 224 Lib.Math.min.name) (by decide +kernel)) (hts (.static Lib.Math.min.name) (by decide +kernel)) (hts (.initialized "java/lang/Math") (by decide +kernel)) (hts (.code Lib.Math.min.name Lib.Math.min.code 2 (some .int)) (by decide +kernel)) (Nat.le_of_ble_eq_true rfl) (Nat.le_of_ble_eq_true rfl) (Nat.zero_le _) (Nat.zero_le _) dX3_weightedOf_36 ?_
    refine lv_goto (tgt := 43) hx hb dX3_weightedOf_39 (by decide) ?_
    refine lv_istore (lv' := [(5, .int (if g 10 i < b0 then g 10 i else b0)), (4, .int (zat 4 (g 0) (g 9 i))), (3, .int (zat 4 (g 0) (g 3 i))), (0, .ref (ad 0)), (1, .ref (ad (11 + i))), (2, .int b0)]) hx hb dX3_weightedOf_43 hl (by decide) rfl (fun ls hl => ?_)
    refine lv_iload hx hb dX3_weightedOf_45 (lv_at hl 0 rfl) ?_
    refine lv_iload hx hb dX3_weightedOf_47 (lv_at hl 1 rfl) ?_
    refine vp_callSi (va_Run.run (va_runS (As := [.int (if g 10 i < b0 then g 10 i else b0), .int (zat 4 (g 0) (g 9 i))]) (rest := []) ⟨hx, hb, hml, hown, hts⟩ (zX3_percentOf l D cI cL cE cP (cws cI cL cE cP ad g n k us wb tr pr le tk gf) (if g 10 i < b0 then g 10 i else b0) (zat 4 (g 0) (g 9 i))) (va_cwS 2 hts gX3_weightedOf_X3_percentOf rfl rfl rfl (by decide +kernel) ⟨Nat.le_of_ble_eq_true rfl, Nat.le_of_ble_eq_true rfl⟩) ⟨zPr_blind, zPr_mk hE hP⟩ rfl rfl hl.1 rfl (lv_room (Nat.le_of_ble_eq_true rfl)) dX3_weightedOf_49 ⟨Nat.le_of_ble_eq_true rfl, Nat.le_of_ble_eq_true rfl⟩)) (fun r_10 e_11 => ?_)
    obtain rfl := e_11
    refine lv_iload_n hx hb dX3_weightedOf_52 rfl (lv_at hl 5 rfl) ?_
    refine lv_iload hx hb dX3_weightedOf_53 (lv_at hl 0 rfl) ?_
    refine lv_isub hx hb dX3_weightedOf_55 ?_
    refine lv_iload_n hx hb dX3_weightedOf_56 rfl (lv_at hl 2 rfl) ?_
    refine vp_callSi (va_Run.run (va_runS (As := [.int (b0 - (if g 10 i < b0 then g 10 i else b0)), .int (zat 4 (g 0) (g 3 i))]) (rest := [.int (pct (if g 10 i < b0 then g 10 i else b0) (zat 4 (g 0) (g 9 i)))]) ⟨hx, hb, hml, hown, hts⟩ (zX3_percentOf l D cI cL cE cP (cws cI cL cE cP ad g n k us wb tr pr le tk gf) (b0 - (if g 10 i < b0 then g 10 i else b0)) (zat 4 (g 0) (g 3 i))) (va_cwS 2 hts gX3_weightedOf_X3_percentOf rfl rfl rfl (by decide +kernel) ⟨Nat.le_of_ble_eq_true rfl, Nat.le_of_ble_eq_true rfl⟩) ⟨zPr_blind, zPr_mk hE hP⟩ rfl rfl hl.1 rfl (lv_room (Nat.le_of_ble_eq_true rfl)) dX3_weightedOf_57 ⟨Nat.le_of_ble_eq_true rfl, Nat.le_of_ble_eq_true rfl⟩)) (fun r_12 e_13 => ?_)
    obtain rfl := e_13
    refine lv_iadd hx hb dX3_weightedOf_60 ?_
    exact W.iret (v := (pct (if g 10 i < b0 then g 10 i else b0) (zat 4 (g 0) (g 9 i))) + (pct (b0 - (if g 10 i < b0 then g 10 i else b0)) (zat 4 (g 0) (g 3 i)))) hx hb hr (fun t ht hW => ⟨_, rfl, (by first | rfl | (simp only [wo, c_5]; done) | (simp only [wo, c_5]; rfl) | (simp [wo, c_5]; done)), ht⟩) (fun _ h => nomatch h) dX3_weightedOf_61
set_option maxHeartbeats 4000000 in
set_option maxRecDepth 100000 in
theorem zX3_usableFor (l : Launch) (D : va_G) (cI cL cE cP : ClassId) (ad : Nat → Nat) (g : Nat → Nat → Int32) (n k : Nat) (us wb tr : Nat → Int32) (pr le : Nat → Int64) (tk gf : Int32) (hok : zOk g n k) (e0 : Int32) : Met l yX3_usableFor wsX3_usableFor ({ frames := 1, cells := 0, slots := 0, locals := 21 }) (zPr D cI cL cE cP (cws cI cL cE cP ad g n k us wb tr pr le tk gf) [.ref (ad 0), .int e0]) (vp_Si (fun r : Int32 => r = usL g e0 k)) 0 0 (fun _ => False) := by
  refine Met.ofW (cc := cX3_usableFor) (maxL := 5) (ret := (some .int)) (by decide) rfl ?_
  intro p e s m args below meth c s₁ B hml hv
  obtain ⟨rfl, hE, hP⟩ := hv
  have hx := B.exec
  have hb := B.bytes
  have hr := B.returns
  have hts := atoms_spec (ws := wsX3_usableFor) B.pre
  have hown : s.vm.findClass RX3 = some m.cls := findClass_of_methodNamed B.named
  have hlocks := B.notSynchronized
  have hK := hE.1
  have iX1 : ∀ w ∈ wsX10, w ∈ wsX3_usableFor := by decide +kernel
  have iX3 : ∀ w ∈ wsX30, w ∈ wsX3_usableFor := by decide +kernel
  have hl := lv_entry ([.ref (ad 0), .int e0]) (n := 5) (Nat.le_of_ble_eq_true rfl)
  rw [lg_entry_eq]
  generalize (lg_sl ([.ref (ad 0), .int e0]) ++ List.replicate (5 - (lg_sl ([.ref (ad 0), .int e0])).length) Slot.unset).toArray = ls at hl ⊢
  have hl : lv_has ls 5 [(0, .ref (ad 0)), (1, .int e0)] := hl
  refine lv_iconst (v := 0) hx hb dX3_usableFor_0 (by decide) ?_
  refine lv_istore_n (lv' := [(2, .int 0), (0, .ref (ad 0)), (1, .int e0)]) hx hb dX3_usableFor_1 rfl hl (by decide) rfl (fun ls hl => ?_)
  refine lv_iconst (v := 0) hx hb dX3_usableFor_2 (by decide) ?_
  refine lv_istore_n (lv' := [(3, .int 0), (2, .int 0), (0, .ref (ad 0)), (1, .int e0)]) hx hb dX3_usableFor_3 rfl hl (by decide) rfl (fun ls hl => ?_)
  refine zloop (nL := 5) (lv := fun j => [(0, .ref (ad 0)), (1, .int e0), (2, .int (usL g e0 (j))), (3, .int (nI (j)))]) (n := k) (lv_re (lv_sub hl [2, 3, 1, 0] rfl) (by first | rfl | (simp only [usL, nI_0]; done) | (simp only [usL, nI_0]; rfl) | (simp [usL, nI_0]; done))) (fun ls hl => ?_) (fun j hj ih_4 ls hl => ?_)
  · have hl : lv_has ls 5 [(0, .ref (ad 0)), (1, .int e0), (2, .int (usL g e0 (k))), (3, .int (nI (k)))] := hl
    refine lv_iload_n hx hb dX3_usableFor_4 rfl (lv_at hl 3 rfl) ?_
    refine lv_aload_n hx hb dX3_usableFor_5 rfl (lv_at hl 0 rfl) ?_
    refine va_get (D := D) (ci := 3) (v := .int (nI k)) (C := RX3) (T := TX3) (N := 9) hx hb hts iX3 hown hK hP 0 cws_0 rfl 6 (by decide) (hts (.fieldLink RX3 39 "CapitalReckoner" "pieceCount" "I") (by decide +kernel)) (fun _ h9 => h9) rfl dX3_usableFor_6 ?_
    refine lv_icmp_ge (tgt := 48) hx hb dX3_usableFor_9 (by decide) (fun c_1 => ?_) (fun c_1 => absurd (zle_refl (nI k)) c_1)
    refine lv_iload_n hx hb dX3_usableFor_48 rfl (lv_at hl 2 rfl) ?_
    exact W.iret (v := usL g e0 (k)) hx hb hr (fun t ht hW => ⟨_, rfl, (by first | rfl | (simp only [usL, c_1]; done) | (simp only [usL, c_1]; rfl) | (simp [usL, c_1]; done)), ht⟩) (fun _ h => nomatch h) dX3_usableFor_49
  · have hl : lv_has ls 5 [(0, .ref (ad 0)), (1, .int e0), (2, .int (usL g e0 (j))), (3, .int (nI (j)))] := hl
    refine lv_iload_n hx hb dX3_usableFor_4 rfl (lv_at hl 3 rfl) ?_
    refine lv_aload_n hx hb dX3_usableFor_5 rfl (lv_at hl 0 rfl) ?_
    refine va_get (D := D) (ci := 3) (v := .int (nI k)) (C := RX3) (T := TX3) (N := 9) hx hb hts iX3 hown hK hP 0 cws_0 rfl 6 (by decide) (hts (.fieldLink RX3 39 "CapitalReckoner" "pieceCount" "I") (by decide +kernel)) (fun _ h9 => h9) rfl dX3_usableFor_6 ?_
    refine lv_icmp_ge (tgt := 48) hx hb dX3_usableFor_9 (by decide) (fun c_2 => absurd c_2 (nI_ge hj (by have := hok.k; omega))) (fun c_2 => ?_)
    refine lv_aload_n hx hb dX3_usableFor_12 rfl (lv_at hl 0 rfl) ?_
    refine lv_iload_n hx hb dX3_usableFor_13 rfl (lv_at hl 3 rfl) ?_
    refine va_csq (va_Run.run (va_runV (As := [.int (nI (j))]) (rest := []) ⟨hx, hb, hml, hown, hts⟩ (zX3_pieceAt l D cI cL cE cP ad g n k us wb tr pr le tk gf hok (nI (j))) (cwV 1 hts gX3_usableFor_X3_pieceAt rfl rfl rfl (by decide +kernel) ⟨Nat.le_of_ble_eq_true rfl, Nat.le_of_ble_eq_true rfl⟩) ⟨zPr_blind, va_recv hK hP (ci := 3) (q0 := 0) rfl cws_0, zPr_mk hE hP⟩ rfl rfl hl.1 rfl (lv_room (Nat.le_of_ble_eq_true rfl)) dX3_usableFor_14 ⟨Nat.le_of_ble_eq_true rfl, Nat.le_of_ble_eq_true rfl⟩)) (fun r_3 e_4 => ?_)
    obtain rfl := zpi_known e_4 hj hok
    refine lv_astore (lv' := [(4, .ref (ad (19 + j))), (0, .ref (ad 0)), (1, .int e0), (2, .int (usL g e0 (j))), (3, .int (nI (j)))]) hx hb dX3_usableFor_17 hl (by decide) rfl (fun ls hl => ?_)
    refine lv_aload hx hb dX3_usableFor_19 (lv_at hl 0 rfl) ?_
    refine lv_ifnull hx hb dX3_usableFor_21 ?_
    refine lv_aload hx hb dX3_usableFor_24 (lv_at hl 0 rfl) ?_
    refine va_getN (D := D) (ci := 1) (v := .int (g 15 j)) (C := RX1) (T := TX1) (N := 5) hx hb hts iX1 hown hK hP (11 + n + j) (cws_P hj) rfl 4 (by decide) (va_Nw.use rfl (hE.2 (.fieldLinkNest RX3 160 "CapitalReckoner$Piece" "uses" "I" RX3) (List.mem_of_getElem? (i := 28) rfl))) (fun _ h9 => h9) rfl dX3_usableFor_26 ?_
    refine lv_iload_n hx hb dX3_usableFor_29 rfl (lv_at hl 2 rfl) ?_
    refine vp_callSi (va_Run.run (va_runS (As := [.int (g 15 j), .int e0]) (rest := []) ⟨hx, hb, hml, hown, hts⟩ (zX3_has l D cI cL cE cP (cws cI cL cE cP ad g n k us wb tr pr le tk gf) (g 15 j) e0) (va_cwS 2 hts gX3_usableFor_X3_has rfl rfl rfl (by decide +kernel) ⟨Nat.le_of_ble_eq_true rfl, Nat.le_of_ble_eq_true rfl⟩) ⟨zPr_blind, zPr_mk hE hP⟩ rfl rfl hl.1 rfl (lv_room (Nat.le_of_ble_eq_true rfl)) dX3_usableFor_30 ⟨Nat.le_of_ble_eq_true rfl, Nat.le_of_ble_eq_true rfl⟩)) (fun r_5 e_6 => ?_)
    obtain rfl := e_6
    refine lv_if_eq (tgt := 42) hx hb dX3_usableFor_33 (by decide) (fun c_7 => ?_) (fun c_7 => ?_)
    · have c_7 := zb_eq c_7
      refine lv_iinc (v := nI ((j) + 1)) (lv' := [(3, .int (nI ((j) + 1))), (4, .ref (ad (19 + j))), (0, .ref (ad 0)), (1, .int e0), (2, .int (usL g e0 (j)))]) hx hb dX3_usableFor_42 hl (k := 4) rfl (zinc _) (by decide) rfl (fun ls hl => ?_)
      refine lv_goto (tgt := 4) hx hb dX3_usableFor_45 (by decide) ?_
      exact ih_4 ls (lv_re (lv_sub hl [2, 3, 4, 0] rfl) (by first | rfl | (simp only [usL, c_2, c_7]; done) | (simp only [usL, c_2, c_7]; rfl) | (simp [usL, c_2, c_7]; done)))
    · have c_7 := zb_ne c_7
      refine lv_iload_n hx hb dX3_usableFor_36 rfl (lv_at hl 3 rfl) ?_
      refine lv_iconst (v := 1) hx hb dX3_usableFor_37 (by decide) ?_
      refine lv_iload_n hx hb dX3_usableFor_38 rfl (lv_at hl 4 rfl) ?_
      refine lv_ishl hx hb dX3_usableFor_39 ?_
      refine lv_ior hx hb dX3_usableFor_40 ?_
      refine lv_istore_n (lv' := [(2, .int ((usL g e0 (j)) ||| ((1 : Int32) <<< ((nI (j)) &&& 31)))), (4, .ref (ad (19 + j))), (0, .ref (ad 0)), (1, .int e0), (3, .int (nI (j)))]) hx hb dX3_usableFor_41 rfl hl (by decide) rfl (fun ls hl => ?_)
      refine lv_iinc (v := nI ((j) + 1)) (lv' := [(3, .int (nI ((j) + 1))), (2, .int ((usL g e0 (j)) ||| ((1 : Int32) <<< ((nI (j)) &&& 31)))), (4, .ref (ad (19 + j))), (0, .ref (ad 0)), (1, .int e0)]) hx hb dX3_usableFor_42 hl (k := 4) rfl (zinc _) (by decide) rfl (fun ls hl => ?_)
      refine lv_goto (tgt := 4) hx hb dX3_usableFor_45 (by decide) ?_
      exact ih_4 ls (lv_re (lv_sub hl [3, 4, 1, 0] rfl) (by first | rfl | (simp only [usL, c_2, c_7]; done) | (simp only [usL, c_2, c_7]; rfl) | (simp [usL, c_2, c_7]; done)))
set_option maxHeartbeats 4000000 in
set_option maxRecDepth 100000 in
theorem zX3_bareOfParty (l : Launch) (D : va_G) (cI cL cE cP : ClassId) (ad : Nat → Nat) (g : Nat → Nat → Int32) (n k : Nat) (us wb tr : Nat → Int32) (pr le : Nat → Int64) (hok : zOk g n k) (p0 : Int32) : Met l yX3_bareOfParty wsX3_bareOfParty ({ frames := 4, cells := 0, slots := 0, locals := 86 }) (zPr D cI cL cE cP (cws cI cL cE cP ad g n k us wb tr pr le (nI n) (nI k)) [.ref (ad 0), .int p0]) (vp_Si (fun r : Int32 => r = bpL g k le p0 n)) 0 0 (fun _ => False) := by
  refine Met.ofW (cc := cX3_bareOfParty) (maxL := 5) (ret := (some .int)) (by decide) rfl ?_
  intro p e s m args below meth c s₁ B hml hv
  obtain ⟨rfl, hE, hP⟩ := hv
  have hx := B.exec
  have hb := B.bytes
  have hr := B.returns
  have hts := atoms_spec (ws := wsX3_bareOfParty) B.pre
  have hown : s.vm.findClass RX3 = some m.cls := findClass_of_methodNamed B.named
  have hlocks := B.notSynchronized
  have hK := hE.1
  have iX0 : ∀ w ∈ wsX00, w ∈ wsX3_bareOfParty := by decide +kernel
  have iX3 : ∀ w ∈ wsX30, w ∈ wsX3_bareOfParty := by decide +kernel
  have hl := lv_entry ([.ref (ad 0), .int p0]) (n := 5) (Nat.le_of_ble_eq_true rfl)
  rw [lg_entry_eq]
  generalize (lg_sl ([.ref (ad 0), .int p0]) ++ List.replicate (5 - (lg_sl ([.ref (ad 0), .int p0])).length) Slot.unset).toArray = ls at hl ⊢
  have hl : lv_has ls 5 [(0, .ref (ad 0)), (1, .int p0)] := hl
  refine lv_iconst (v := 0) hx hb dX3_bareOfParty_0 (by decide) ?_
  refine lv_istore_n (lv' := [(2, .int 0), (0, .ref (ad 0)), (1, .int p0)]) hx hb dX3_bareOfParty_1 rfl hl (by decide) rfl (fun ls hl => ?_)
  refine lv_iconst (v := 0) hx hb dX3_bareOfParty_2 (by decide) ?_
  refine lv_istore_n (lv' := [(3, .int 0), (2, .int 0), (0, .ref (ad 0)), (1, .int p0)]) hx hb dX3_bareOfParty_3 rfl hl (by decide) rfl (fun ls hl => ?_)
  refine zloop (nL := 5) (lv := fun i => [(0, .ref (ad 0)), (1, .int p0), (2, .int (bpL g k le p0 (i))), (3, .int (nI (i)))]) (n := n) (lv_re (lv_sub hl [2, 3, 1, 0] rfl) (by first | rfl | (simp only [bpL, nI_0]; done) | (simp only [bpL, nI_0]; rfl) | (simp [bpL, nI_0]; done))) (fun ls hl => ?_) (fun i hi ih_4 ls hl => ?_)
  · have hl : lv_has ls 5 [(0, .ref (ad 0)), (1, .int p0), (2, .int (bpL g k le p0 (n))), (3, .int (nI (n)))] := hl
    refine lv_iload_n hx hb dX3_bareOfParty_4 rfl (lv_at hl 3 rfl) ?_
    refine lv_aload_n hx hb dX3_bareOfParty_5 rfl (lv_at hl 0 rfl) ?_
    refine va_get (D := D) (ci := 3) (v := .int (nI n)) (C := RX3) (T := TX3) (N := 9) hx hb hts iX3 hown hK hP 0 cws_0 rfl 5 (by decide) (hts (.fieldLink RX3 35 "CapitalReckoner" "exposureCount" "I") (by decide +kernel)) (fun _ h9 => h9) rfl dX3_bareOfParty_6 ?_
    refine lv_icmp_ge (tgt := 56) hx hb dX3_bareOfParty_9 (by decide) (fun c_1 => ?_) (fun c_1 => absurd (zle_refl (nI n)) c_1)
    refine lv_iload_n hx hb dX3_bareOfParty_56 rfl (lv_at hl 2 rfl) ?_
    exact W.iret (v := bpL g k le p0 (n)) hx hb hr (fun t ht hW => ⟨_, rfl, (by first | rfl | (simp only [bpL, c_1]; done) | (simp only [bpL, c_1]; rfl) | (simp [bpL, c_1]; done)), ht⟩) (fun _ h => nomatch h) dX3_bareOfParty_57
  · have hl : lv_has ls 5 [(0, .ref (ad 0)), (1, .int p0), (2, .int (bpL g k le p0 (i))), (3, .int (nI (i)))] := hl
    refine lv_iload_n hx hb dX3_bareOfParty_4 rfl (lv_at hl 3 rfl) ?_
    refine lv_aload_n hx hb dX3_bareOfParty_5 rfl (lv_at hl 0 rfl) ?_
    refine va_get (D := D) (ci := 3) (v := .int (nI n)) (C := RX3) (T := TX3) (N := 9) hx hb hts iX3 hown hK hP 0 cws_0 rfl 5 (by decide) (hts (.fieldLink RX3 35 "CapitalReckoner" "exposureCount" "I") (by decide +kernel)) (fun _ h9 => h9) rfl dX3_bareOfParty_6 ?_
    refine lv_icmp_ge (tgt := 56) hx hb dX3_bareOfParty_9 (by decide) (fun c_2 => absurd c_2 (nI_ge hi (by have := hok.n; omega))) (fun c_2 => ?_)
    refine lv_aload_n hx hb dX3_bareOfParty_12 rfl (lv_at hl 0 rfl) ?_
    refine lv_iload_n hx hb dX3_bareOfParty_13 rfl (lv_at hl 3 rfl) ?_
    refine va_csq (va_Run.run (va_runV (As := [.int (nI (i))]) (rest := []) ⟨hx, hb, hml, hown, hts⟩ (zX3_exposureAt l D cI cL cE cP ad g n k us wb tr pr le (nI n) (nI k) hok (nI (i))) (cwV 1 hts gX3_bareOfParty_X3_exposureAt rfl rfl rfl (by decide +kernel) ⟨Nat.le_of_ble_eq_true rfl, Nat.le_of_ble_eq_true rfl⟩) ⟨zPr_blind, va_recv hK hP (ci := 3) (q0 := 0) rfl cws_0, zPr_mk hE hP⟩ rfl rfl hl.1 rfl (lv_room (Nat.le_of_ble_eq_true rfl)) dX3_bareOfParty_14 ⟨Nat.le_of_ble_eq_true rfl, Nat.le_of_ble_eq_true rfl⟩)) (fun r_3 e_4 => ?_)
    obtain rfl := zex_known e_4 hi hok
    refine lv_astore (lv' := [(4, .ref (ad (11 + i))), (0, .ref (ad 0)), (1, .int p0), (2, .int (bpL g k le p0 (i))), (3, .int (nI (i)))]) hx hb dX3_bareOfParty_17 hl (by decide) rfl (fun ls hl => ?_)
    refine lv_aload hx hb dX3_bareOfParty_19 (lv_at hl 0 rfl) ?_
    refine lv_ifnull hx hb dX3_bareOfParty_21 ?_
    refine lv_aload hx hb dX3_bareOfParty_24 (lv_at hl 0 rfl) ?_
    refine va_getN (D := D) (ci := 0) (v := .int (g 4 i)) (C := RX0) (T := TX0) (N := 8) hx hb hts iX0 hown hK hP (11 + i) (cws_E hi) rfl 0 (by decide) (va_Nw.use rfl (hE.2 (.fieldLinkNest RX3 227 "CapitalReckoner$Exposure" "party" "I" RX3) (List.mem_of_getElem? (i := 19) rfl))) (fun _ h9 => h9) rfl dX3_bareOfParty_26 ?_
    refine lv_iload_n hx hb dX3_bareOfParty_29 rfl (lv_at hl 2 rfl) ?_
    refine lv_icmp_ne (tgt := 50) hx hb dX3_bareOfParty_30 (by decide) (fun c_5 => ?_) (fun c_5 => ?_)
    · refine lv_iinc (v := nI ((i) + 1)) (lv' := [(3, .int (nI ((i) + 1))), (4, .ref (ad (11 + i))), (0, .ref (ad 0)), (1, .int p0), (2, .int (bpL g k le p0 (i)))]) hx hb dX3_bareOfParty_50 hl (k := 4) rfl (zinc _) (by decide) rfl (fun ls hl => ?_)
      refine lv_goto (tgt := 4) hx hb dX3_bareOfParty_53 (by decide) ?_
      exact ih_4 ls (lv_re (lv_sub hl [2, 3, 4, 0] rfl) (by first | rfl | (simp only [bpL, c_2, c_5]; done) | (simp only [bpL, c_2, c_5]; rfl) | (simp [bpL, c_2, c_5]; done)))
    · refine lv_iload_n hx hb dX3_bareOfParty_33 rfl (lv_at hl 3 rfl) ?_
      refine lv_aload_n hx hb dX3_bareOfParty_34 rfl (lv_at hl 1 rfl) ?_
      refine lv_aload hx hb dX3_bareOfParty_35 (lv_at hl 0 rfl) ?_
      refine lv_aload_n hx hb dX3_bareOfParty_37 rfl (lv_at hl 1 rfl) ?_
      refine va_get (D := D) (ci := 3) (v := .ref (ad 5)) (C := RX3) (T := TX3) (N := 9) hx hb hts iX3 hown hK hP 0 cws_0 rfl 4 (by decide) (hts (.fieldLink RX3 31 "CapitalReckoner" "search" "LCapitalReckoner$Search;") (by decide +kernel)) (fun _ h9 => h9) rfl dX3_bareOfParty_38 ?_
      refine lv_iload_n hx hb dX3_bareOfParty_41 rfl (lv_at hl 4 rfl) ?_
      refine vp_callSi (va_Run.run (va_runVN (As := [.int (nI (i))]) (rest := [.ref (ad (11 + i)), .ref (ad 0), .int (bpL g k le p0 (i))]) ⟨hx, hb, hml, hown, hts⟩ (zX2_givenSet l D cI cL cE cP ad g n k us wb tr pr le hok (nI (i))) ⟨va_cnB 1 hts gX3_bareOfParty_X2_givenSet_n176 rfl rfl rfl (hE.2 (.methodLinkNest RX3 176 yX2_givenSet RX3) (List.mem_of_getElem? (i := 14) rfl)) (hts (.initialized RX2) (by decide +kernel)) (by decide +kernel) ⟨Nat.le_of_ble_eq_true rfl, Nat.le_of_ble_eq_true rfl⟩, (hts (.instanceMethod yX2_givenSet) (by decide +kernel)), (hts (.selects RX2 yX2_givenSet yX2_givenSet) (by decide +kernel))⟩ ⟨zPr_blind, va_recv hK hP (ci := 2) (q0 := 5) rfl cws_5, zPr_mk hE hP⟩ rfl rfl hl.1 rfl (lv_room (Nat.le_of_ble_eq_true rfl)) dX3_bareOfParty_42 ⟨Nat.le_of_ble_eq_true rfl, Nat.le_of_ble_eq_true rfl⟩)) (fun r_6 e_7 => ?_)
      obtain rfl := e_7
      refine vp_callSi (va_Run.run (va_runV (As := [.ref (ad (11 + i)), .int (gsL le k (nI (i)) k)]) (rest := [.int (bpL g k le p0 (i))]) ⟨hx, hb, hml, hown, hts⟩ (zX3_bareWith l D cI cL cE cP ad g n k us wb tr pr le (nI n) (nI k) hok i hi (gsL le k (nI (i)) k)) (cwV 2 hts gX3_bareOfParty_X3_bareWith rfl rfl rfl (by decide +kernel) ⟨Nat.le_of_ble_eq_true rfl, Nat.le_of_ble_eq_true rfl⟩) ⟨zPr_blind, va_recv hK hP (ci := 3) (q0 := 0) rfl cws_0, zPr_mk hE hP⟩ rfl rfl hl.1 rfl (lv_room (Nat.le_of_ble_eq_true rfl)) dX3_bareOfParty_45 ⟨Nat.le_of_ble_eq_true rfl, Nat.le_of_ble_eq_true rfl⟩)) (fun r_8 e_9 => ?_)
      obtain rfl := e_9
      refine lv_iadd hx hb dX3_bareOfParty_48 ?_
      refine lv_istore_n (lv' := [(2, .int ((bpL g k le p0 (i)) + (bw g k i (gsL le k (nI (i)) k)))), (4, .ref (ad (11 + i))), (0, .ref (ad 0)), (1, .int p0), (3, .int (nI (i)))]) hx hb dX3_bareOfParty_49 rfl hl (by decide) rfl (fun ls hl => ?_)
      refine lv_iinc (v := nI ((i) + 1)) (lv' := [(3, .int (nI ((i) + 1))), (2, .int ((bpL g k le p0 (i)) + (bw g k i (gsL le k (nI (i)) k)))), (4, .ref (ad (11 + i))), (0, .ref (ad 0)), (1, .int p0)]) hx hb dX3_bareOfParty_50 hl (k := 4) rfl (zinc _) (by decide) rfl (fun ls hl => ?_)
      refine lv_goto (tgt := 4) hx hb dX3_bareOfParty_53 (by decide) ?_
      exact ih_4 ls (lv_re (lv_sub hl [3, 4, 1, 0] rfl) (by first | rfl | (simp only [bpL, c_2, c_5]; done) | (simp only [bpL, c_2, c_5]; rfl) | (simp [bpL, c_2, c_5]; done)))
set_option maxHeartbeats 4000000 in
set_option maxRecDepth 100000 in
theorem zX3_fillSearch (l : Launch) (D : va_G) (cI cL cE cP : ClassId) (ad : Nat → Nat) (g : Nat → Nat → Int32) (n k : Nat) (us wb tr : Nat → Int32) (pr le : Nat → Int64) (tk gf : Int32) (hok : zOk g n k) (sz : Nat) : Met l yX3_fillSearch wsX3_fillSearch ({ frames := 3, cells := 0, slots := 0, locals := 68 }) (zPw D cI cL cE cP (cws cI cL cE cP ad g n k us wb tr pr le tk gf) sz [.ref (ad 0)]) (zQv D (cws cI cL cE cP ad g n k us wb tr pr le tk gf) sz (cws cI cL cE cP ad g n k (zfl (US g k) us n) (zfl (WB g k) wb (32 * n)) tr pr le (nI n) (nI k))) 0 0 (va_A (cws cI cL cE cP ad g n k us wb tr pr le tk gf) sz) := by
  refine Met.ofW (cc := cX3_fillSearch) (maxL := 4) (ret := none) (by decide) rfl ?_
  intro p e s m args below meth c s₁ B hml hv
  obtain ⟨rfl, hsz, hE, hP, hD0⟩ := hv
  subst hsz
  obtain ⟨A, hAe⟩ : ∃ A, A = va_A (cws cI cL cE cP ad g n k us wb tr pr le tk gf) s.heap.size := ⟨_, rfl⟩
  have hD : va_D A (cws cI cL cE cP ad g n k us wb tr pr le tk gf) := by rw [hAe]; exact hD0.self
  have hA : ∀ q : Nat, s.heap.size ≤ q → A q := fun q h => by rw [hAe]; exact Or.inr h
  have hS : va_S A s.heap s.heap [] := va_S.rf
  have hx := B.exec
  have hb := B.bytes
  have hr := B.returns
  have hts := atoms_spec (ws := wsX3_fillSearch) B.pre
  have hown : s.vm.findClass RX3 = some m.cls := findClass_of_methodNamed B.named
  have hlocks := B.notSynchronized
  have hK := hE.1
  have iX3 : ∀ w ∈ wsX30, w ∈ wsX3_fillSearch := by decide +kernel
  have hl := lv_entry ([.ref (ad 0)]) (n := 4) (Nat.le_of_ble_eq_true rfl)
  rw [lg_entry_eq]
  generalize (lg_sl ([.ref (ad 0)]) ++ List.replicate (4 - (lg_sl ([.ref (ad 0)])).length) Slot.unset).toArray = ls at hl ⊢
  have hl : lv_has ls 4 [(0, .ref (ad 0))] := hl
  refine lv_aload_n hx hb dX3_fillSearch_0 rfl (lv_at hl 0 rfl) ?_
  refine va_get (D := D) (ci := 3) (v := .ref (ad 5)) (C := RX3) (T := TX3) (N := 9) hx hb hts iX3 hown hK hP 0 cws_0 rfl 4 (by decide) (hts (.fieldLink RX3 31 "CapitalReckoner" "search" "LCapitalReckoner$Search;") (by decide +kernel)) (fun _ h9 => h9) rfl dX3_fillSearch_1 ?_
  refine lv_aload_n hx hb dX3_fillSearch_4 rfl (lv_at hl 0 rfl) ?_
  refine va_get (D := D) (ci := 3) (v := .int (nI n)) (C := RX3) (T := TX3) (N := 9) hx hb hts iX3 hown hK hP 0 cws_0 rfl 5 (by decide) (hts (.fieldLink RX3 35 "CapitalReckoner" "exposureCount" "I") (by decide +kernel)) (fun _ h9 => h9) rfl dX3_fillSearch_5 ?_
  refine lv_aload_n hx hb dX3_fillSearch_8 rfl (lv_at hl 0 rfl) ?_
  refine va_get (D := D) (ci := 3) (v := .int (nI k)) (C := RX3) (T := TX3) (N := 9) hx hb hts iX3 hown hK hP 0 cws_0 rfl 6 (by decide) (hts (.fieldLink RX3 39 "CapitalReckoner" "pieceCount" "I") (by decide +kernel)) (fun _ h9 => h9) rfl dX3_fillSearch_9 ?_
  refine zcallv (va_runVN (As := [.int (nI n), .int (nI k)]) (rest := []) ⟨hx, hb, hml, hown, hts⟩ (zX2_begin l D cI cL cE cP ad g n k us wb tr pr le tk gf hok s.heap.size) ⟨va_cnB 2 hts gX3_fillSearch_X2_begin_n233 rfl rfl rfl (hE.2 (.methodLinkNest RX3 233 yX2_begin RX3) (List.mem_of_getElem? (i := 1) rfl)) (hts (.initialized RX2) (by decide +kernel)) (by decide +kernel) ⟨Nat.le_of_ble_eq_true rfl, Nat.le_of_ble_eq_true rfl⟩, (hts (.instanceMethod yX2_begin) (by decide +kernel)), (hts (.selects RX2 yX2_begin yX2_begin) (by decide +kernel))⟩ ⟨zPw_blind, va_recv hK hP (ci := 2) (q0 := 5) rfl cws_5, zPw_mk hE hP hD⟩ rfl rfl hl.1 rfl (lv_room (Nat.le_of_ble_eq_true rfl)) dX3_fillSearch_12 ⟨Nat.le_of_ble_eq_true rfl, Nat.le_of_ble_eq_true rfl⟩) hD hS hA (fun H locs hP hD hS => ?_)
  have hP : va_P D vwCl (cws cI cL cE cP ad g n k us wb tr pr le (nI n) (nI k)) H := hP
  have hD : va_D A (cws cI cL cE cP ad g n k us wb tr pr le (nI n) (nI k)) := hD
  refine lv_iconst (v := 0) hx hb dX3_fillSearch_15 (by decide) ?_
  refine lv_istore_n (lv' := [(1, .int 0), (0, .ref (ad 0))]) hx hb dX3_fillSearch_16 rfl hl (by decide) rfl (fun ls hl => ?_)
  refine zloopM (nL := 4) (lv := fun i => [(0, .ref (ad 0)), (1, .int (nI (i)))]) (wd := fun i => cws cI cL cE cP ad g n k (zfl (US g k) us (i)) (zfl (WB g k) wb (32 * (i))) tr pr le (nI n) (nI k)) (n := n) (lv_re (lv_sub hl [1, 0] rfl) (by first | rfl | (simp only [nI_0]; done) | (simp only [nI_0]; rfl) | (simp [nI_0]; done))) (zP_re hP (by rw [zfl_0, Nat.mul_zero, zfl_0])) (zD_re hD (by rw [zfl_0, Nat.mul_zero, zfl_0])) hS (fun H locs ls hP hD hS hl => ?_) (fun i hi ih_17 H locs ls hP hD hS hl => ?_)
  · have hl : lv_has ls 4 [(0, .ref (ad 0)), (1, .int (nI (n)))] := hl
    have hP : va_P D vwCl (cws cI cL cE cP ad g n k (zfl (US g k) us (n)) (zfl (WB g k) wb (32 * (n))) tr pr le (nI n) (nI k)) H := hP
    have hD : va_D A (cws cI cL cE cP ad g n k (zfl (US g k) us (n)) (zfl (WB g k) wb (32 * (n))) tr pr le (nI n) (nI k)) := hD
    refine lv_iload_n hx hb dX3_fillSearch_17 rfl (lv_at hl 1 rfl) ?_
    refine lv_aload_n hx hb dX3_fillSearch_18 rfl (lv_at hl 0 rfl) ?_
    refine va_get (D := D) (ci := 3) (v := .int (nI n)) (C := RX3) (T := TX3) (N := 9) hx hb hts iX3 hown hK hP 0 cws_0 rfl 5 (by decide) (hts (.fieldLink RX3 35 "CapitalReckoner" "exposureCount" "I") (by decide +kernel)) (fun _ h9 => h9) rfl dX3_fillSearch_19 ?_
    refine lv_icmp_ge (tgt := 88) hx hb dX3_fillSearch_22 (by decide) (fun c_3 => ?_) (fun c_3 => absurd (zle_refl (nI n)) c_3)
    exact zvret hx hb hr hAe (zP_re hP (by first | rfl | (simp only [c_3]; done) | (simp only [c_3]; rfl) | (simp [c_3]; done))) (zD_re hD (by first | rfl | (simp only [c_3]; done) | (simp only [c_3]; rfl) | (simp [c_3]; done))) hS dX3_fillSearch_88
  · have hl : lv_has ls 4 [(0, .ref (ad 0)), (1, .int (nI (i)))] := hl
    have hP : va_P D vwCl (cws cI cL cE cP ad g n k (zfl (US g k) us (i)) (zfl (WB g k) wb (32 * (i))) tr pr le (nI n) (nI k)) H := hP
    have hD : va_D A (cws cI cL cE cP ad g n k (zfl (US g k) us (i)) (zfl (WB g k) wb (32 * (i))) tr pr le (nI n) (nI k)) := hD
    refine lv_iload_n hx hb dX3_fillSearch_17 rfl (lv_at hl 1 rfl) ?_
    refine lv_aload_n hx hb dX3_fillSearch_18 rfl (lv_at hl 0 rfl) ?_
    refine va_get (D := D) (ci := 3) (v := .int (nI n)) (C := RX3) (T := TX3) (N := 9) hx hb hts iX3 hown hK hP 0 cws_0 rfl 5 (by decide) (hts (.fieldLink RX3 35 "CapitalReckoner" "exposureCount" "I") (by decide +kernel)) (fun _ h9 => h9) rfl dX3_fillSearch_19 ?_
    refine lv_icmp_ge (tgt := 88) hx hb dX3_fillSearch_22 (by decide) (fun c_4 => absurd c_4 (nI_ge hi (by have := hok.n; omega))) (fun c_4 => ?_)
    refine lv_aload_n hx hb dX3_fillSearch_25 rfl (lv_at hl 0 rfl) ?_
    refine lv_iload_n hx hb dX3_fillSearch_26 rfl (lv_at hl 1 rfl) ?_
    refine va_csq (va_Run.run (va_runV (As := [.int (nI (i))]) (rest := []) ⟨hx, hb, hml, hown, hts⟩ (zX3_exposureAt l D cI cL cE cP ad g n k (zfl (US g k) us (i)) (zfl (WB g k) wb (32 * (i))) tr pr le (nI n) (nI k) hok (nI (i))) (cwV 1 hts gX3_fillSearch_X3_exposureAt rfl rfl rfl (by decide +kernel) ⟨Nat.le_of_ble_eq_true rfl, Nat.le_of_ble_eq_true rfl⟩) ⟨zPr_blind, va_recv hK hP (ci := 3) (q0 := 0) rfl cws_0, zPr_mk hE hP⟩ rfl rfl hl.1 rfl (lv_room (Nat.le_of_ble_eq_true rfl)) dX3_fillSearch_27 ⟨Nat.le_of_ble_eq_true rfl, Nat.le_of_ble_eq_true rfl⟩)) (fun r_5 e_6 => ?_)
    obtain rfl := zex_known e_6 hi hok
    refine lv_astore_n (lv' := [(2, .ref (ad (11 + i))), (0, .ref (ad 0)), (1, .int (nI (i)))]) hx hb dX3_fillSearch_30 rfl hl (by decide) rfl (fun ls hl => ?_)
    refine lv_aload_n hx hb dX3_fillSearch_31 rfl (lv_at hl 0 rfl) ?_
    refine lv_ifnull hx hb dX3_fillSearch_32 ?_
    refine lv_aload_n hx hb dX3_fillSearch_35 rfl (lv_at hl 1 rfl) ?_
    refine va_get (D := D) (ci := 3) (v := .ref (ad 5)) (C := RX3) (T := TX3) (N := 9) hx hb hts iX3 hown hK hP 0 cws_0 rfl 4 (by decide) (hts (.fieldLink RX3 31 "CapitalReckoner" "search" "LCapitalReckoner$Search;") (by decide +kernel)) (fun _ h9 => h9) rfl dX3_fillSearch_36 ?_
    refine lv_iload_n hx hb dX3_fillSearch_39 rfl (lv_at hl 2 rfl) ?_
    refine lv_aload_n hx hb dX3_fillSearch_40 rfl (lv_at hl 1 rfl) ?_
    refine lv_iload_n hx hb dX3_fillSearch_41 rfl (lv_at hl 2 rfl) ?_
    refine vp_callSi (va_Run.run (va_runV (As := [.int (nI (i))]) (rest := [.int (nI (i)), .ref (ad 5)]) ⟨hx, hb, hml, hown, hts⟩ (zX3_usableFor l D cI cL cE cP ad g n k (zfl (US g k) us (i)) (zfl (WB g k) wb (32 * (i))) tr pr le (nI n) (nI k) hok (nI (i))) (cwV 1 hts gX3_fillSearch_X3_usableFor rfl rfl rfl (by decide +kernel) ⟨Nat.le_of_ble_eq_true rfl, Nat.le_of_ble_eq_true rfl⟩) ⟨zPr_blind, va_recv hK hP (ci := 3) (q0 := 0) rfl cws_0, zPr_mk hE hP⟩ rfl rfl hl.1 rfl (lv_room (Nat.le_of_ble_eq_true rfl)) dX3_fillSearch_42 ⟨Nat.le_of_ble_eq_true rfl, Nat.le_of_ble_eq_true rfl⟩)) (fun r_7 e_8 => ?_)
    obtain rfl := e_8
    refine zcallv (va_runVN (As := [.int (nI (i)), .int (usL g (nI (i)) k)]) (rest := []) ⟨hx, hb, hml, hown, hts⟩ (zX2_setUsable l D cI cL cE cP ad g n k (zfl (US g k) us (i)) (zfl (WB g k) wb (32 * (i))) tr pr le (nI n) (nI k) hok (nI (i)) (usL g (nI (i)) k) H.size) ⟨va_cnB 2 hts gX3_fillSearch_X2_setUsable_n240 rfl rfl rfl (hE.2 (.methodLinkNest RX3 240 yX2_setUsable RX3) (List.mem_of_getElem? (i := 2) rfl)) (hts (.initialized RX2) (by decide +kernel)) (by decide +kernel) ⟨Nat.le_of_ble_eq_true rfl, Nat.le_of_ble_eq_true rfl⟩, (hts (.instanceMethod yX2_setUsable) (by decide +kernel)), (hts (.selects RX2 yX2_setUsable yX2_setUsable) (by decide +kernel))⟩ ⟨zPw_blind, va_recv hK hP (ci := 2) (q0 := 5) rfl cws_5, zPw_mk hE hP hD⟩ rfl rfl hl.1 rfl (lv_room (Nat.le_of_ble_eq_true rfl)) dX3_fillSearch_45 ⟨Nat.le_of_ble_eq_true rfl, Nat.le_of_ble_eq_true rfl⟩) hD hS hA (fun H locs hP hD hS => ?_)
    have hP : va_P D vwCl (cws cI cL cE cP ad g n k (zput 8 (zfl (US g k) us (i)) (nI (i)) (usL g (nI (i)) k)) (zfl (WB g k) wb (32 * (i))) tr pr le (nI n) (nI k)) H := hP
    have hD : va_D A (cws cI cL cE cP ad g n k (zput 8 (zfl (US g k) us (i)) (nI (i)) (usL g (nI (i)) k)) (zfl (WB g k) wb (32 * (i))) tr pr le (nI n) (nI k)) := hD
    refine lv_iconst (v := 0) hx hb dX3_fillSearch_48 (by decide) ?_
    refine lv_istore_n (lv' := [(3, .int 0), (2, .ref (ad (11 + i))), (0, .ref (ad 0)), (1, .int (nI (i)))]) hx hb dX3_fillSearch_49 rfl hl (by decide) rfl (fun ls hl => ?_)
    refine zloopM (nL := 4) (lv := fun S1 => [(0, .ref (ad 0)), (1, .int (nI i)), (2, .ref (ad (11 + i))), (3, .int (nI (S1)))]) (wd := fun S1 => cws cI cL cE cP ad g n k (zput 8 (zfl (US g k) us i) (nI i) (usL g (nI i) k)) (zfl (WB g k) wb (32 * i + (S1))) tr pr le (nI n) (nI k)) (n := 32) (lv_re (lv_sub hl [2, 3, 1, 0] rfl) (by first | rfl | (simp only [nI_0]; done) | (simp only [nI_0]; rfl) | (simp [nI_0]; done))) (zP_re hP (by rfl)) (zD_re hD (by rfl)) hS (fun H locs ls hP hD hS hl => ?_) (fun S1 hS1 ih_50 H locs ls hP hD hS hl => ?_)
    · have hl : lv_has ls 4 [(0, .ref (ad 0)), (1, .int (nI i)), (2, .ref (ad (11 + i))), (3, .int (nI (32)))] := hl
      have hP : va_P D vwCl (cws cI cL cE cP ad g n k (zput 8 (zfl (US g k) us i) (nI i) (usL g (nI i) k)) (zfl (WB g k) wb (32 * i + (32))) tr pr le (nI n) (nI k)) H := hP
      have hD : va_D A (cws cI cL cE cP ad g n k (zput 8 (zfl (US g k) us i) (nI i) (usL g (nI i) k)) (zfl (WB g k) wb (32 * i + (32))) tr pr le (nI n) (nI k)) := hD
      refine lv_iload_n hx hb dX3_fillSearch_50 rfl (lv_at hl 3 rfl) ?_
      refine lv_bipush (v := 32) hx hb dX3_fillSearch_51 (by decide) ?_
      refine lv_icmp_ge (tgt := 82) hx hb dX3_fillSearch_53 (by decide) (fun c_11 => ?_) (fun c_11 => absurd (zle_refl (nI 32)) c_11)
      refine lv_iinc (v := nI (i + 1)) (lv' := [(1, .int (nI (i + 1))), (0, .ref (ad 0)), (2, .ref (ad (11 + i))), (3, .int (nI (32)))]) hx hb dX3_fillSearch_82 hl (k := 1) rfl (zinc _) (by decide) rfl (fun ls hl => ?_)
      refine lv_goto (tgt := 17) hx hb dX3_fillSearch_85 (by decide) ?_
      exact ih_17 H locs ls (zP_re hP (by rw [US_step (show i < 8 by have := hok.n; omega), show 32 * (i + 1) = 32 * i + 32 from by omega])) (zD_re hD (by rw [US_step (show i < 8 by have := hok.n; omega), show 32 * (i + 1) = 32 * i + 32 from by omega])) hS (lv_re (lv_sub hl [1, 0] rfl) (by first | rfl | (simp only [c_4, c_11]; done) | (simp only [c_4, c_11]; rfl) | (simp [c_4, c_11]; done)))
    · have hl : lv_has ls 4 [(0, .ref (ad 0)), (1, .int (nI i)), (2, .ref (ad (11 + i))), (3, .int (nI (S1)))] := hl
      have hP : va_P D vwCl (cws cI cL cE cP ad g n k (zput 8 (zfl (US g k) us i) (nI i) (usL g (nI i) k)) (zfl (WB g k) wb (32 * i + (S1))) tr pr le (nI n) (nI k)) H := hP
      have hD : va_D A (cws cI cL cE cP ad g n k (zput 8 (zfl (US g k) us i) (nI i) (usL g (nI i) k)) (zfl (WB g k) wb (32 * i + (S1))) tr pr le (nI n) (nI k)) := hD
      refine lv_iload_n hx hb dX3_fillSearch_50 rfl (lv_at hl 3 rfl) ?_
      refine lv_bipush (v := 32) hx hb dX3_fillSearch_51 (by decide) ?_
      refine lv_icmp_ge (tgt := 82) hx hb dX3_fillSearch_53 (by decide) (fun c_12 => absurd c_12 (nI_ge hS1 (by decide))) (fun c_12 => ?_)
      refine lv_aload_n hx hb dX3_fillSearch_56 rfl (lv_at hl 0 rfl) ?_
      refine va_get (D := D) (ci := 3) (v := .ref (ad 5)) (C := RX3) (T := TX3) (N := 9) hx hb hts iX3 hown hK hP 0 cws_0 rfl 4 (by decide) (hts (.fieldLink RX3 31 "CapitalReckoner" "search" "LCapitalReckoner$Search;") (by decide +kernel)) (fun _ h9 => h9) rfl dX3_fillSearch_57 ?_
      refine lv_iload_n hx hb dX3_fillSearch_60 rfl (lv_at hl 1 rfl) ?_
      refine lv_iload_n hx hb dX3_fillSearch_61 rfl (lv_at hl 3 rfl) ?_
      refine lv_aload_n hx hb dX3_fillSearch_62 rfl (lv_at hl 0 rfl) ?_
      refine lv_aload_n hx hb dX3_fillSearch_63 rfl (lv_at hl 2 rfl) ?_
      refine lv_aload_n hx hb dX3_fillSearch_64 rfl (lv_at hl 0 rfl) ?_
      refine lv_aload_n hx hb dX3_fillSearch_65 rfl (lv_at hl 2 rfl) ?_
      refine lv_iload_n hx hb dX3_fillSearch_66 rfl (lv_at hl 3 rfl) ?_
      refine vp_callSi (va_Run.run (va_runV (As := [.ref (ad (11 + i)), .int (nI (S1))]) (rest := [.ref (ad (11 + i)), .ref (ad 0), .int (nI (S1)), .int (nI i), .ref (ad 5)]) ⟨hx, hb, hml, hown, hts⟩ (zX3_bareWith l D cI cL cE cP ad g n k (zput 8 (zfl (US g k) us i) (nI i) (usL g (nI i) k)) (zfl (WB g k) wb (32 * i + (S1))) tr pr le (nI n) (nI k) hok i hi (nI (S1))) (cwV 2 hts gX3_fillSearch_X3_bareWith rfl rfl rfl (by decide +kernel) ⟨Nat.le_of_ble_eq_true rfl, Nat.le_of_ble_eq_true rfl⟩) ⟨zPr_blind, va_recv hK hP (ci := 3) (q0 := 0) rfl cws_0, zPr_mk hE hP⟩ rfl rfl hl.1 rfl (lv_room (Nat.le_of_ble_eq_true rfl)) dX3_fillSearch_67 ⟨Nat.le_of_ble_eq_true rfl, Nat.le_of_ble_eq_true rfl⟩)) (fun r_13 e_14 => ?_)
      obtain rfl := e_14
      refine vp_callSi (va_Run.run (va_runV (As := [.ref (ad (11 + i)), .int (bw g k i (nI (S1)))]) (rest := [.int (nI (S1)), .int (nI i), .ref (ad 5)]) ⟨hx, hb, hml, hown, hts⟩ (zX3_weightedOf l D cI cL cE cP ad g n k (zput 8 (zfl (US g k) us i) (nI i) (usL g (nI i) k)) (zfl (WB g k) wb (32 * i + (S1))) tr pr le (nI n) (nI k) hok i hi (bw g k i (nI (S1)))) (cwV 2 hts gX3_fillSearch_X3_weightedOf rfl rfl rfl (by decide +kernel) ⟨Nat.le_of_ble_eq_true rfl, Nat.le_of_ble_eq_true rfl⟩) ⟨zPr_blind, va_recv hK hP (ci := 3) (q0 := 0) rfl cws_0, zPr_mk hE hP⟩ rfl rfl hl.1 rfl (lv_room (Nat.le_of_ble_eq_true rfl)) dX3_fillSearch_70 ⟨Nat.le_of_ble_eq_true rfl, Nat.le_of_ble_eq_true rfl⟩)) (fun r_15 e_16 => ?_)
      obtain rfl := e_16
      refine zcallv (va_runVN (As := [.int (nI i), .int (nI (S1)), .int (wo g i (bw g k i (nI (S1))))]) (rest := []) ⟨hx, hb, hml, hown, hts⟩ (zX2_setWeighted l D cI cL cE cP ad g n k (zput 8 (zfl (US g k) us i) (nI i) (usL g (nI i) k)) (zfl (WB g k) wb (32 * i + (S1))) tr pr le (nI n) (nI k) hok (nI i) (nI (S1)) (wo g i (bw g k i (nI (S1)))) H.size) ⟨va_cnB 3 hts gX3_fillSearch_X2_setWeighted_n243 rfl rfl rfl (hE.2 (.methodLinkNest RX3 243 yX2_setWeighted RX3) (List.mem_of_getElem? (i := 8) rfl)) (hts (.initialized RX2) (by decide +kernel)) (by decide +kernel) ⟨Nat.le_of_ble_eq_true rfl, Nat.le_of_ble_eq_true rfl⟩, (hts (.instanceMethod yX2_setWeighted) (by decide +kernel)), (hts (.selects RX2 yX2_setWeighted yX2_setWeighted) (by decide +kernel))⟩ ⟨zPw_blind, va_recv hK hP (ci := 2) (q0 := 5) rfl cws_5, zPw_mk hE hP hD⟩ rfl rfl hl.1 rfl (lv_room (Nat.le_of_ble_eq_true rfl)) dX3_fillSearch_73 ⟨Nat.le_of_ble_eq_true rfl, Nat.le_of_ble_eq_true rfl⟩) hD hS hA (fun H locs hP hD hS => ?_)
      have hP : va_P D vwCl (cws cI cL cE cP ad g n k (zput 8 (zfl (US g k) us i) (nI i) (usL g (nI i) k)) (zput 256 (zfl (WB g k) wb (32 * i + (S1))) (((nI i) * 32) + (nI (S1))) (wo g i (bw g k i (nI (S1))))) tr pr le (nI n) (nI k)) H := hP
      have hD : va_D A (cws cI cL cE cP ad g n k (zput 8 (zfl (US g k) us i) (nI i) (usL g (nI i) k)) (zput 256 (zfl (WB g k) wb (32 * i + (S1))) (((nI i) * 32) + (nI (S1))) (wo g i (bw g k i (nI (S1))))) tr pr le (nI n) (nI k)) := hD
      refine lv_iinc (v := nI ((S1) + 1)) (lv' := [(3, .int (nI ((S1) + 1))), (0, .ref (ad 0)), (1, .int (nI i)), (2, .ref (ad (11 + i)))]) hx hb dX3_fillSearch_76 hl (k := 3) rfl (zinc _) (by decide) rfl (fun ls hl => ?_)
      refine lv_goto (tgt := 50) hx hb dX3_fillSearch_79 (by decide) ?_
      exact ih_50 H locs ls (zP_re hP (by rw [WB_step (show i < 8 by have := hok.n; omega) hS1])) (zD_re hD (by rw [WB_step (show i < 8 by have := hok.n; omega) hS1])) hS (lv_re (lv_sub hl [1, 2, 3, 0] rfl) (by first | rfl | (simp only [c_4, c_12]; done) | (simp only [c_4, c_12]; rfl) | (simp [c_4, c_12]; done)))
set_option maxHeartbeats 4000000 in
set_option maxRecDepth 100000 in
theorem zX3_findBest (l : Launch) (D : va_G) (cI cL cE cP : ClassId) (ad : Nat → Nat) (g : Nat → Nat → Int32) (n k : Nat) (us wb tr : Nat → Int32) (pr le : Nat → Int64) (tk gf : Int32) (hok : zOk g n k) (sz : Nat) : Met l yX3_findBest wsX3_findBest ({ frames := 4, cells := 0, slots := 0, locals := 91 }) (zPw D cI cL cE cP (cws cI cL cE cP ad g n k us wb tr pr le tk gf) sz [.ref (ad 0)]) (zQv D (cws cI cL cE cP ad g n k us wb tr pr le tk gf) sz (cws cI cL cE cP ad g n k (zfl (US g k) us n) (zfl (WB g k) wb (32 * n)) tr (PRO (zfl (WB g k) wb (32 * n)) pr n) (LEO (zfl (US g k) us n) (zfl (WB g k) wb (32 * n)) pr le n) (nI n) (nI k))) 0 0 (va_A (cws cI cL cE cP ad g n k us wb tr pr le tk gf) sz) := by
  refine Met.ofW (cc := cX3_findBest) (maxL := 1) (ret := none) (by decide) rfl ?_
  intro p e s m args below meth c s₁ B hml hv
  obtain ⟨rfl, hsz, hE, hP, hD0⟩ := hv
  subst hsz
  obtain ⟨A, hAe⟩ : ∃ A, A = va_A (cws cI cL cE cP ad g n k us wb tr pr le tk gf) s.heap.size := ⟨_, rfl⟩
  have hD : va_D A (cws cI cL cE cP ad g n k us wb tr pr le tk gf) := by rw [hAe]; exact hD0.self
  have hA : ∀ q : Nat, s.heap.size ≤ q → A q := fun q h => by rw [hAe]; exact Or.inr h
  have hS : va_S A s.heap s.heap [] := va_S.rf
  have hx := B.exec
  have hb := B.bytes
  have hr := B.returns
  have hts := atoms_spec (ws := wsX3_findBest) B.pre
  have hown : s.vm.findClass RX3 = some m.cls := findClass_of_methodNamed B.named
  have hlocks := B.notSynchronized
  have hK := hE.1
  have iX3 : ∀ w ∈ wsX30, w ∈ wsX3_findBest := by decide +kernel
  have hl := lv_entry ([.ref (ad 0)]) (n := 1) (Nat.le_of_ble_eq_true rfl)
  rw [lg_entry_eq]
  generalize (lg_sl ([.ref (ad 0)]) ++ List.replicate (1 - (lg_sl ([.ref (ad 0)])).length) Slot.unset).toArray = ls at hl ⊢
  have hl : lv_has ls 1 [(0, .ref (ad 0))] := hl
  refine lv_aload_n hx hb dX3_findBest_0 rfl (lv_at hl 0 rfl) ?_
  refine zcallv (va_runV (As := []) (rest := []) ⟨hx, hb, hml, hown, hts⟩ (zX3_fillSearch l D cI cL cE cP ad g n k us wb tr pr le tk gf hok s.heap.size) (cwV 0 hts gX3_findBest_X3_fillSearch rfl rfl rfl (by decide +kernel) ⟨Nat.le_of_ble_eq_true rfl, Nat.le_of_ble_eq_true rfl⟩) ⟨zPw_blind, va_recv hK hP (ci := 3) (q0 := 0) rfl cws_0, zPw_mk hE hP hD⟩ rfl rfl hl.1 rfl (lv_room (Nat.le_of_ble_eq_true rfl)) dX3_findBest_1 ⟨Nat.le_of_ble_eq_true rfl, Nat.le_of_ble_eq_true rfl⟩) hD hS hA (fun H locs hP hD hS => ?_)
  have hP : va_P D vwCl (cws cI cL cE cP ad g n k (zfl (US g k) us n) (zfl (WB g k) wb (32 * n)) tr pr le (nI n) (nI k)) H := hP
  have hD : va_D A (cws cI cL cE cP ad g n k (zfl (US g k) us n) (zfl (WB g k) wb (32 * n)) tr pr le (nI n) (nI k)) := hD
  refine lv_aload_n hx hb dX3_findBest_4 rfl (lv_at hl 0 rfl) ?_
  refine va_get (D := D) (ci := 3) (v := .ref (ad 5)) (C := RX3) (T := TX3) (N := 9) hx hb hts iX3 hown hK hP 0 cws_0 rfl 4 (by decide) (hts (.fieldLink RX3 31 "CapitalReckoner" "search" "LCapitalReckoner$Search;") (by decide +kernel)) (fun _ h9 => h9) rfl dX3_findBest_5 ?_
  refine zcallv (va_runVN (As := []) (rest := []) ⟨hx, hb, hml, hown, hts⟩ (zX2_findLeast l D cI cL cE cP ad g n k (zfl (US g k) us n) (zfl (WB g k) wb (32 * n)) tr pr le hok H.size) ⟨va_cnB 0 hts gX3_findBest_X2_findLeast_n230 rfl rfl rfl (hE.2 (.methodLinkNest RX3 230 yX2_findLeast RX3) (List.mem_of_getElem? (i := 9) rfl)) (hts (.initialized RX2) (by decide +kernel)) (by decide +kernel) ⟨Nat.le_of_ble_eq_true rfl, Nat.le_of_ble_eq_true rfl⟩, (hts (.instanceMethod yX2_findLeast) (by decide +kernel)), (hts (.selects RX2 yX2_findLeast yX2_findLeast) (by decide +kernel))⟩ ⟨zPw_blind, va_recv hK hP (ci := 2) (q0 := 5) rfl cws_5, zPw_mk hE hP hD⟩ rfl rfl hl.1 rfl (lv_room (Nat.le_of_ble_eq_true rfl)) dX3_findBest_8 ⟨Nat.le_of_ble_eq_true rfl, Nat.le_of_ble_eq_true rfl⟩) hD hS hA (fun H locs hP hD hS => ?_)
  have hP : va_P D vwCl (cws cI cL cE cP ad g n k (zfl (US g k) us n) (zfl (WB g k) wb (32 * n)) tr (PRO (zfl (WB g k) wb (32 * n)) pr n) (LEO (zfl (US g k) us n) (zfl (WB g k) wb (32 * n)) pr le n) (nI n) (nI k)) H := hP
  have hD : va_D A (cws cI cL cE cP ad g n k (zfl (US g k) us n) (zfl (WB g k) wb (32 * n)) tr (PRO (zfl (WB g k) wb (32 * n)) pr n) (LEO (zfl (US g k) us n) (zfl (WB g k) wb (32 * n)) pr le n) (nI n) (nI k)) := hD
  exact zvret hx hb hr hAe (zP_re hP (rfl)) (zD_re hD (rfl)) hS dX3_findBest_11
set_option maxHeartbeats 4000000 in
set_option maxRecDepth 100000 in
theorem zX3_plain (l : Launch) (D : va_G) (cI cL cE cP : ClassId) (ad : Nat → Nat) (g : Nat → Nat → Int32) (n k : Nat) (us wb tr : Nat → Int32) (pr le : Nat → Int64) (tk gf : Int32) (hok : zOk g n k) : Met l yX3_plain wsX3_plain ({ frames := 2, cells := 0, slots := 0, locals := 41 }) (zPr D cI cL cE cP (cws cI cL cE cP ad g n k us wb tr pr le tk gf) [.ref (ad 0)]) (vp_Si (fun r : Int32 => r = plL g n)) 0 0 (fun _ => False) := by
  refine Met.ofW (cc := cX3_plain) (maxL := 4) (ret := (some .int)) (by decide) rfl ?_
  intro p e s m args below meth c s₁ B hml hv
  obtain ⟨rfl, hE, hP⟩ := hv
  have hx := B.exec
  have hb := B.bytes
  have hr := B.returns
  have hts := atoms_spec (ws := wsX3_plain) B.pre
  have hown : s.vm.findClass RX3 = some m.cls := findClass_of_methodNamed B.named
  have hlocks := B.notSynchronized
  have hK := hE.1
  have iX0 : ∀ w ∈ wsX00, w ∈ wsX3_plain := by decide +kernel
  have iX3 : ∀ w ∈ wsX30, w ∈ wsX3_plain := by decide +kernel
  have hl := lv_entry ([.ref (ad 0)]) (n := 4) (Nat.le_of_ble_eq_true rfl)
  rw [lg_entry_eq]
  generalize (lg_sl ([.ref (ad 0)]) ++ List.replicate (4 - (lg_sl ([.ref (ad 0)])).length) Slot.unset).toArray = ls at hl ⊢
  have hl : lv_has ls 4 [(0, .ref (ad 0))] := hl
  refine lv_iconst (v := 0) hx hb dX3_plain_0 (by decide) ?_
  refine lv_istore_n (lv' := [(1, .int 0), (0, .ref (ad 0))]) hx hb dX3_plain_1 rfl hl (by decide) rfl (fun ls hl => ?_)
  refine lv_iconst (v := 0) hx hb dX3_plain_2 (by decide) ?_
  refine lv_istore_n (lv' := [(2, .int 0), (1, .int 0), (0, .ref (ad 0))]) hx hb dX3_plain_3 rfl hl (by decide) rfl (fun ls hl => ?_)
  refine zloop (nL := 4) (lv := fun i => [(0, .ref (ad 0)), (1, .int (plL g (i))), (2, .int (nI (i)))]) (n := n) (lv_re (lv_sub hl [2, 1, 0] rfl) (by first | rfl | (simp only [plL, nI_0]; done) | (simp only [plL, nI_0]; rfl) | (simp [plL, nI_0]; done))) (fun ls hl => ?_) (fun i hi ih_4 ls hl => ?_)
  · have hl : lv_has ls 4 [(0, .ref (ad 0)), (1, .int (plL g (n))), (2, .int (nI (n)))] := hl
    refine lv_iload_n hx hb dX3_plain_4 rfl (lv_at hl 2 rfl) ?_
    refine lv_aload_n hx hb dX3_plain_5 rfl (lv_at hl 0 rfl) ?_
    refine va_get (D := D) (ci := 3) (v := .int (nI n)) (C := RX3) (T := TX3) (N := 9) hx hb hts iX3 hown hK hP 0 cws_0 rfl 5 (by decide) (hts (.fieldLink RX3 35 "CapitalReckoner" "exposureCount" "I") (by decide +kernel)) (fun _ h9 => h9) rfl dX3_plain_6 ?_
    refine lv_icmp_ge (tgt := 49) hx hb dX3_plain_9 (by decide) (fun c_1 => ?_) (fun c_1 => absurd (zle_refl (nI n)) c_1)
    refine lv_iload_n hx hb dX3_plain_49 rfl (lv_at hl 1 rfl) ?_
    exact W.iret (v := plL g (n)) hx hb hr (fun t ht hW => ⟨_, rfl, (by first | rfl | (simp only [plL, c_1]; done) | (simp only [plL, c_1]; rfl) | (simp [plL, c_1]; done)), ht⟩) (fun _ h => nomatch h) dX3_plain_50
  · have hl : lv_has ls 4 [(0, .ref (ad 0)), (1, .int (plL g (i))), (2, .int (nI (i)))] := hl
    refine lv_iload_n hx hb dX3_plain_4 rfl (lv_at hl 2 rfl) ?_
    refine lv_aload_n hx hb dX3_plain_5 rfl (lv_at hl 0 rfl) ?_
    refine va_get (D := D) (ci := 3) (v := .int (nI n)) (C := RX3) (T := TX3) (N := 9) hx hb hts iX3 hown hK hP 0 cws_0 rfl 5 (by decide) (hts (.fieldLink RX3 35 "CapitalReckoner" "exposureCount" "I") (by decide +kernel)) (fun _ h9 => h9) rfl dX3_plain_6 ?_
    refine lv_icmp_ge (tgt := 49) hx hb dX3_plain_9 (by decide) (fun c_2 => absurd c_2 (nI_ge hi (by have := hok.n; omega))) (fun c_2 => ?_)
    refine lv_aload_n hx hb dX3_plain_12 rfl (lv_at hl 0 rfl) ?_
    refine lv_iload_n hx hb dX3_plain_13 rfl (lv_at hl 2 rfl) ?_
    refine va_csq (va_Run.run (va_runV (As := [.int (nI (i))]) (rest := []) ⟨hx, hb, hml, hown, hts⟩ (zX3_exposureAt l D cI cL cE cP ad g n k us wb tr pr le tk gf hok (nI (i))) (cwV 1 hts gX3_plain_X3_exposureAt rfl rfl rfl (by decide +kernel) ⟨Nat.le_of_ble_eq_true rfl, Nat.le_of_ble_eq_true rfl⟩) ⟨zPr_blind, va_recv hK hP (ci := 3) (q0 := 0) rfl cws_0, zPr_mk hE hP⟩ rfl rfl hl.1 rfl (lv_room (Nat.le_of_ble_eq_true rfl)) dX3_plain_14 ⟨Nat.le_of_ble_eq_true rfl, Nat.le_of_ble_eq_true rfl⟩)) (fun r_3 e_4 => ?_)
    obtain rfl := zex_known e_4 hi hok
    refine lv_astore_n (lv' := [(3, .ref (ad (11 + i))), (0, .ref (ad 0)), (1, .int (plL g (i))), (2, .int (nI (i)))]) hx hb dX3_plain_17 rfl hl (by decide) rfl (fun ls hl => ?_)
    refine lv_aload_n hx hb dX3_plain_18 rfl (lv_at hl 0 rfl) ?_
    refine lv_ifnull hx hb dX3_plain_19 ?_
    refine lv_iload_n hx hb dX3_plain_22 rfl (lv_at hl 2 rfl) ?_
    refine lv_aload_n hx hb dX3_plain_23 rfl (lv_at hl 0 rfl) ?_
    refine vp_callSi (va_Run.run (va_runVN (As := []) (rest := [.int (plL g (i))]) ⟨hx, hb, hml, hown, hts⟩ (zX0_amountNow l D cI cL cE cP ad g n k us wb tr pr le tk gf hok i hi) ⟨va_cnB 0 hts gX3_plain_X0_amountNow_n132 rfl rfl rfl (hE.2 (.methodLinkNest RX3 132 yX0_amountNow RX3) (List.mem_of_getElem? (i := 4) rfl)) (hts (.initialized RX0) (by decide +kernel)) (by decide +kernel) ⟨Nat.le_of_ble_eq_true rfl, Nat.le_of_ble_eq_true rfl⟩, (hts (.instanceMethod yX0_amountNow) (by decide +kernel)), (hts (.selects RX0 yX0_amountNow yX0_amountNow) (by decide +kernel))⟩ ⟨zPr_blind, va_recv hK hP (ci := 0) (q0 := (11 + i)) rfl (cws_E hi), zPr_mk hE hP⟩ rfl rfl hl.1 rfl (lv_room (Nat.le_of_ble_eq_true rfl)) dX3_plain_24 ⟨Nat.le_of_ble_eq_true rfl, Nat.le_of_ble_eq_true rfl⟩)) (fun r_5 e_6 => ?_)
    obtain rfl := e_6
    refine lv_aload_n hx hb dX3_plain_27 rfl (lv_at hl 1 rfl) ?_
    refine va_get (D := D) (ci := 3) (v := .ref (ad 2)) (C := RX3) (T := TX3) (N := 9) hx hb hts iX3 hown hK hP 0 cws_0 rfl 1 (by decide) (hts (.fieldLink RX3 13 "CapitalReckoner" "plainWeights" "[I") (by decide +kernel)) (fun _ h9 => h9) rfl dX3_plain_28 ?_
    refine lv_aload_n hx hb dX3_plain_31 rfl (lv_at hl 0 rfl) ?_
    refine va_getN (D := D) (ci := 0) (v := .int (g 3 i)) (C := RX0) (T := TX0) (N := 8) hx hb hts iX0 hown hK hP (11 + i) (cws_E hi) rfl 3 (by decide) (va_Nw.use rfl (hE.2 (.fieldLinkNest RX3 123 "CapitalReckoner$Exposure" "kind" "I" RX3) (List.mem_of_getElem? (i := 22) rfl))) (fun _ h9 => h9) rfl dX3_plain_32 ?_
    refine vp_callSi (va_Run.run (va_runS (As := [.ref (ad 2), .int (g 3 i)]) (rest := [.int (amt g i), .int (plL g (i))]) ⟨hx, hb, hml, hown, hts⟩ (zX3_at l D cI cL cE cP (cws cI cL cE cP ad g n k us wb tr pr le tk gf) 2 (ad 2) 4 (g 1) (by decide) cws_2 (g 3 i)) (va_cwS 2 hts gX3_plain_X3_at rfl rfl rfl (by decide +kernel) ⟨Nat.le_of_ble_eq_true rfl, Nat.le_of_ble_eq_true rfl⟩) ⟨zPr_blind, zPr_mk hE hP⟩ rfl rfl hl.1 rfl (lv_room (Nat.le_of_ble_eq_true rfl)) dX3_plain_35 ⟨Nat.le_of_ble_eq_true rfl, Nat.le_of_ble_eq_true rfl⟩)) (fun r_7 e_8 => ?_)
    obtain rfl := e_8
    refine vp_callSi (va_Run.run (va_runS (As := [.int (amt g i), .int (zat 4 (g 1) (g 3 i))]) (rest := [.int (plL g (i))]) ⟨hx, hb, hml, hown, hts⟩ (zX3_percentOf l D cI cL cE cP (cws cI cL cE cP ad g n k us wb tr pr le tk gf) (amt g i) (zat 4 (g 1) (g 3 i))) (va_cwS 2 hts gX3_plain_X3_percentOf rfl rfl rfl (by decide +kernel) ⟨Nat.le_of_ble_eq_true rfl, Nat.le_of_ble_eq_true rfl⟩) ⟨zPr_blind, zPr_mk hE hP⟩ rfl rfl hl.1 rfl (lv_room (Nat.le_of_ble_eq_true rfl)) dX3_plain_38 ⟨Nat.le_of_ble_eq_true rfl, Nat.le_of_ble_eq_true rfl⟩)) (fun r_9 e_10 => ?_)
    obtain rfl := e_10
    refine lv_iadd hx hb dX3_plain_41 ?_
    refine lv_istore_n (lv' := [(1, .int ((plL g (i)) + (pct (amt g i) (zat 4 (g 1) (g 3 i))))), (3, .ref (ad (11 + i))), (0, .ref (ad 0)), (2, .int (nI (i)))]) hx hb dX3_plain_42 rfl hl (by decide) rfl (fun ls hl => ?_)
    refine lv_iinc (v := nI ((i) + 1)) (lv' := [(2, .int (nI ((i) + 1))), (1, .int ((plL g (i)) + (pct (amt g i) (zat 4 (g 1) (g 3 i))))), (3, .ref (ad (11 + i))), (0, .ref (ad 0))]) hx hb dX3_plain_43 hl (k := 3) rfl (zinc _) (by decide) rfl (fun ls hl => ?_)
    refine lv_goto (tgt := 4) hx hb dX3_plain_46 (by decide) ?_
    exact ih_4 ls (lv_re (lv_sub hl [3, 1, 0] rfl) (by first | rfl | (simp only [plL, c_2]; done) | (simp only [plL, c_2]; rfl) | (simp [plL, c_2]; done)))
set_option maxHeartbeats 4000000 in
set_option maxRecDepth 100000 in
theorem zX3_exposures (l : Launch) (D : va_G) (cI cL cE cP : ClassId) (ad : Nat → Nat) (g : Nat → Nat → Int32) (n k : Nat) (us wb tr : Nat → Int32) (pr le : Nat → Int64) (tk gf : Int32) (hok : zOk g n k) : Met l yX3_exposures wsX3_exposures ({ frames := 0, cells := 0, slots := 0, locals := 0 }) (zPr D cI cL cE cP (cws cI cL cE cP ad g n k us wb tr pr le tk gf) [.ref (ad 0)]) (vp_Si (fun r : Int32 => r = nI n)) 0 0 (fun _ => False) := by
  refine Met.ofW (cc := cX3_exposures) (maxL := 1) (ret := (some .int)) (by decide) rfl ?_
  intro p e s m args below meth c s₁ B hml hv
  obtain ⟨rfl, hE, hP⟩ := hv
  have hx := B.exec
  have hb := B.bytes
  have hr := B.returns
  have hts := atoms_spec (ws := wsX3_exposures) B.pre
  have hown : s.vm.findClass RX3 = some m.cls := findClass_of_methodNamed B.named
  have hlocks := B.notSynchronized
  have hK := hE.1
  have iX3 : ∀ w ∈ wsX30, w ∈ wsX3_exposures := by decide +kernel
  have hl := lv_entry ([.ref (ad 0)]) (n := 1) (Nat.le_of_ble_eq_true rfl)
  rw [lg_entry_eq]
  generalize (lg_sl ([.ref (ad 0)]) ++ List.replicate (1 - (lg_sl ([.ref (ad 0)])).length) Slot.unset).toArray = ls at hl ⊢
  have hl : lv_has ls 1 [(0, .ref (ad 0))] := hl
  refine lv_aload_n hx hb dX3_exposures_0 rfl (lv_at hl 0 rfl) ?_
  refine va_get (D := D) (ci := 3) (v := .int (nI n)) (C := RX3) (T := TX3) (N := 9) hx hb hts iX3 hown hK hP 0 cws_0 rfl 5 (by decide) (hts (.fieldLink RX3 35 "CapitalReckoner" "exposureCount" "I") (by decide +kernel)) (fun _ h9 => h9) rfl dX3_exposures_1 ?_
  exact W.iret (v := nI n) hx hb hr (fun t ht hW => ⟨_, rfl, (by first | rfl | (simp only []; done) | (simp only []; rfl) | (simp []; done)), ht⟩) (fun _ h => nomatch h) dX3_exposures_4
set_option maxHeartbeats 4000000 in
set_option maxRecDepth 100000 in
theorem zX3_pieces (l : Launch) (D : va_G) (cI cL cE cP : ClassId) (ad : Nat → Nat) (g : Nat → Nat → Int32) (n k : Nat) (us wb tr : Nat → Int32) (pr le : Nat → Int64) (tk gf : Int32) (hok : zOk g n k) : Met l yX3_pieces wsX3_pieces ({ frames := 0, cells := 0, slots := 0, locals := 0 }) (zPr D cI cL cE cP (cws cI cL cE cP ad g n k us wb tr pr le tk gf) [.ref (ad 0)]) (vp_Si (fun r : Int32 => r = nI k)) 0 0 (fun _ => False) := by
  refine Met.ofW (cc := cX3_pieces) (maxL := 1) (ret := (some .int)) (by decide) rfl ?_
  intro p e s m args below meth c s₁ B hml hv
  obtain ⟨rfl, hE, hP⟩ := hv
  have hx := B.exec
  have hb := B.bytes
  have hr := B.returns
  have hts := atoms_spec (ws := wsX3_pieces) B.pre
  have hown : s.vm.findClass RX3 = some m.cls := findClass_of_methodNamed B.named
  have hlocks := B.notSynchronized
  have hK := hE.1
  have iX3 : ∀ w ∈ wsX30, w ∈ wsX3_pieces := by decide +kernel
  have hl := lv_entry ([.ref (ad 0)]) (n := 1) (Nat.le_of_ble_eq_true rfl)
  rw [lg_entry_eq]
  generalize (lg_sl ([.ref (ad 0)]) ++ List.replicate (1 - (lg_sl ([.ref (ad 0)])).length) Slot.unset).toArray = ls at hl ⊢
  have hl : lv_has ls 1 [(0, .ref (ad 0))] := hl
  refine lv_aload_n hx hb dX3_pieces_0 rfl (lv_at hl 0 rfl) ?_
  refine va_get (D := D) (ci := 3) (v := .int (nI k)) (C := RX3) (T := TX3) (N := 9) hx hb hts iX3 hown hK hP 0 cws_0 rfl 6 (by decide) (hts (.fieldLink RX3 39 "CapitalReckoner" "pieceCount" "I") (by decide +kernel)) (fun _ h9 => h9) rfl dX3_pieces_1 ?_
  exact W.iret (v := nI k) hx hb hr (fun t ht hW => ⟨_, rfl, (by first | rfl | (simp only []; done) | (simp only []; rfl) | (simp []; done)), ht⟩) (fun _ h => nomatch h) dX3_pieces_4
set_option maxHeartbeats 4000000 in
set_option maxRecDepth 100000 in
theorem zX3_whole (l : Launch) (D : va_G) (cI cL cE cP : ClassId) (ad : Nat → Nat) (g : Nat → Nat → Int32) (n k : Nat) (us wb tr : Nat → Int32) (pr le : Nat → Int64) (tk gf : Int32) (hok : zOk g n k) (sz : Nat) : Met l yX3_whole wsX3_whole ({ frames := 5, cells := 0, slots := 0, locals := 111 }) (zPw D cI cL cE cP (cws cI cL cE cP ad g n k us wb tr pr le tk gf) sz [.ref (ad 0)]) (zQi D (cws cI cL cE cP ad g n k us wb tr pr le tk gf) sz (fun r : Int32 => r = bwE (LEO (zfl (US g k) us n) (zfl (WB g k) wb (32 * n)) pr le n) k) (cws cI cL cE cP ad g n k (zfl (US g k) us n) (zfl (WB g k) wb (32 * n)) tr (PRO (zfl (WB g k) wb (32 * n)) pr n) (LEO (zfl (US g k) us n) (zfl (WB g k) wb (32 * n)) pr le n) (nI n) (nI k))) 0 0 (va_A (cws cI cL cE cP ad g n k us wb tr pr le tk gf) sz) := by
  refine Met.ofW (cc := cX3_whole) (maxL := 1) (ret := (some .int)) (by decide) rfl ?_
  intro p e s m args below meth c s₁ B hml hv
  obtain ⟨rfl, hsz, hE, hP, hD0⟩ := hv
  subst hsz
  obtain ⟨A, hAe⟩ : ∃ A, A = va_A (cws cI cL cE cP ad g n k us wb tr pr le tk gf) s.heap.size := ⟨_, rfl⟩
  have hD : va_D A (cws cI cL cE cP ad g n k us wb tr pr le tk gf) := by rw [hAe]; exact hD0.self
  have hA : ∀ q : Nat, s.heap.size ≤ q → A q := fun q h => by rw [hAe]; exact Or.inr h
  have hS : va_S A s.heap s.heap [] := va_S.rf
  have hx := B.exec
  have hb := B.bytes
  have hr := B.returns
  have hts := atoms_spec (ws := wsX3_whole) B.pre
  have hown : s.vm.findClass RX3 = some m.cls := findClass_of_methodNamed B.named
  have hlocks := B.notSynchronized
  have hK := hE.1
  have iX3 : ∀ w ∈ wsX30, w ∈ wsX3_whole := by decide +kernel
  have hl := lv_entry ([.ref (ad 0)]) (n := 1) (Nat.le_of_ble_eq_true rfl)
  rw [lg_entry_eq]
  generalize (lg_sl ([.ref (ad 0)]) ++ List.replicate (1 - (lg_sl ([.ref (ad 0)])).length) Slot.unset).toArray = ls at hl ⊢
  have hl : lv_has ls 1 [(0, .ref (ad 0))] := hl
  refine lv_aload_n hx hb dX3_whole_0 rfl (lv_at hl 0 rfl) ?_
  refine zcallv (va_runV (As := []) (rest := []) ⟨hx, hb, hml, hown, hts⟩ (zX3_findBest l D cI cL cE cP ad g n k us wb tr pr le tk gf hok s.heap.size) (cwV 0 hts gX3_whole_X3_findBest rfl rfl rfl (by decide +kernel) ⟨Nat.le_of_ble_eq_true rfl, Nat.le_of_ble_eq_true rfl⟩) ⟨zPw_blind, va_recv hK hP (ci := 3) (q0 := 0) rfl cws_0, zPw_mk hE hP hD⟩ rfl rfl hl.1 rfl (lv_room (Nat.le_of_ble_eq_true rfl)) dX3_whole_1 ⟨Nat.le_of_ble_eq_true rfl, Nat.le_of_ble_eq_true rfl⟩) hD hS hA (fun H locs hP hD hS => ?_)
  have hP : va_P D vwCl (cws cI cL cE cP ad g n k (zfl (US g k) us n) (zfl (WB g k) wb (32 * n)) tr (PRO (zfl (WB g k) wb (32 * n)) pr n) (LEO (zfl (US g k) us n) (zfl (WB g k) wb (32 * n)) pr le n) (nI n) (nI k)) H := hP
  have hD : va_D A (cws cI cL cE cP ad g n k (zfl (US g k) us n) (zfl (WB g k) wb (32 * n)) tr (PRO (zfl (WB g k) wb (32 * n)) pr n) (LEO (zfl (US g k) us n) (zfl (WB g k) wb (32 * n)) pr le n) (nI n) (nI k)) := hD
  refine lv_aload_n hx hb dX3_whole_4 rfl (lv_at hl 0 rfl) ?_
  refine va_get (D := D) (ci := 3) (v := .ref (ad 5)) (C := RX3) (T := TX3) (N := 9) hx hb hts iX3 hown hK hP 0 cws_0 rfl 4 (by decide) (hts (.fieldLink RX3 31 "CapitalReckoner" "search" "LCapitalReckoner$Search;") (by decide +kernel)) (fun _ h9 => h9) rfl dX3_whole_5 ?_
  refine vp_callSi (va_Run.run (va_runVN (As := []) (rest := []) ⟨hx, hb, hml, hown, hts⟩ (zX2_bestWhole l D cI cL cE cP ad g n k (zfl (US g k) us n) (zfl (WB g k) wb (32 * n)) tr (PRO (zfl (WB g k) wb (32 * n)) pr n) (LEO (zfl (US g k) us n) (zfl (WB g k) wb (32 * n)) pr le n) hok ) ⟨va_cnB 0 hts gX3_whole_X2_bestWhole_n186 rfl rfl rfl (hE.2 (.methodLinkNest RX3 186 yX2_bestWhole RX3) (List.mem_of_getElem? (i := 12) rfl)) (hts (.initialized RX2) (by decide +kernel)) (by decide +kernel) ⟨Nat.le_of_ble_eq_true rfl, Nat.le_of_ble_eq_true rfl⟩, (hts (.instanceMethod yX2_bestWhole) (by decide +kernel)), (hts (.selects RX2 yX2_bestWhole yX2_bestWhole) (by decide +kernel))⟩ ⟨zPr_blind, va_recv hK hP (ci := 2) (q0 := 5) rfl cws_5, zPr_mk hE hP⟩ rfl rfl hl.1 rfl (lv_room (Nat.le_of_ble_eq_true rfl)) dX3_whole_8 ⟨Nat.le_of_ble_eq_true rfl, Nat.le_of_ble_eq_true rfl⟩)) (fun r_3 e_4 => ?_)
  obtain rfl := e_4
  exact ziret (v := bwE (LEO (zfl (US g k) us n) (zfl (WB g k) wb (32 * n)) pr le n) k) hx hb hr hAe (by first | rfl | (simp only []; done) | (simp only []; rfl) | (simp []; done)) (zP_re hP (rfl)) (zD_re hD (rfl)) hS dX3_whole_11
set_option maxHeartbeats 4000000 in
set_option maxRecDepth 100000 in
theorem zX3_wholeByTrying (l : Launch) (D : va_G) (cI cL cE cP : ClassId) (ad : Nat → Nat) (g : Nat → Nat → Int32) (n k : Nat) (us wb tr : Nat → Int32) (pr le : Nat → Int64) (tk gf : Int32) (hok : zOk g n k) (sz : Nat) : Met l yX3_wholeByTrying wsX3_wholeByTrying ({ frames := 13, cells := 0, slots := 0, locals := 722 }) (zPw D cI cL cE cP (cws cI cL cE cP ad g n k us wb tr pr le tk gf) sz [.ref (ad 0)]) (zQi D (cws cI cL cE cP ad g n k us wb tr pr le tk gf) sz (fun r : Int32 => r = tfF (zfl (US g k) us n) (zfl (WB g k) wb (32 * n)) n k 0 (trL tr n) (twL (zfl (WB g k) wb (32 * n)) n)) (cws cI cL cE cP ad g n k (zfl (US g k) us n) (zfl (WB g k) wb (32 * n)) (trL tr n) pr le (nI n) (nI k))) 0 0 (va_A (cws cI cL cE cP ad g n k us wb tr pr le tk gf) sz) := by
  refine Met.ofW (cc := cX3_wholeByTrying) (maxL := 1) (ret := (some .int)) (by decide) rfl ?_
  intro p e s m args below meth c s₁ B hml hv
  obtain ⟨rfl, hsz, hE, hP, hD0⟩ := hv
  subst hsz
  obtain ⟨A, hAe⟩ : ∃ A, A = va_A (cws cI cL cE cP ad g n k us wb tr pr le tk gf) s.heap.size := ⟨_, rfl⟩
  have hD : va_D A (cws cI cL cE cP ad g n k us wb tr pr le tk gf) := by rw [hAe]; exact hD0.self
  have hA : ∀ q : Nat, s.heap.size ≤ q → A q := fun q h => by rw [hAe]; exact Or.inr h
  have hS : va_S A s.heap s.heap [] := va_S.rf
  have hx := B.exec
  have hb := B.bytes
  have hr := B.returns
  have hts := atoms_spec (ws := wsX3_wholeByTrying) B.pre
  have hown : s.vm.findClass RX3 = some m.cls := findClass_of_methodNamed B.named
  have hlocks := B.notSynchronized
  have hK := hE.1
  have iX3 : ∀ w ∈ wsX30, w ∈ wsX3_wholeByTrying := by decide +kernel
  have hl := lv_entry ([.ref (ad 0)]) (n := 1) (Nat.le_of_ble_eq_true rfl)
  rw [lg_entry_eq]
  generalize (lg_sl ([.ref (ad 0)]) ++ List.replicate (1 - (lg_sl ([.ref (ad 0)])).length) Slot.unset).toArray = ls at hl ⊢
  have hl : lv_has ls 1 [(0, .ref (ad 0))] := hl
  refine lv_aload_n hx hb dX3_wholeByTrying_0 rfl (lv_at hl 0 rfl) ?_
  refine zcallv (va_runV (As := []) (rest := []) ⟨hx, hb, hml, hown, hts⟩ (zX3_fillSearch l D cI cL cE cP ad g n k us wb tr pr le tk gf hok s.heap.size) (cwV 0 hts gX3_wholeByTrying_X3_fillSearch rfl rfl rfl (by decide +kernel) ⟨Nat.le_of_ble_eq_true rfl, Nat.le_of_ble_eq_true rfl⟩) ⟨zPw_blind, va_recv hK hP (ci := 3) (q0 := 0) rfl cws_0, zPw_mk hE hP hD⟩ rfl rfl hl.1 rfl (lv_room (Nat.le_of_ble_eq_true rfl)) dX3_wholeByTrying_1 ⟨Nat.le_of_ble_eq_true rfl, Nat.le_of_ble_eq_true rfl⟩) hD hS hA (fun H locs hP hD hS => ?_)
  have hP : va_P D vwCl (cws cI cL cE cP ad g n k (zfl (US g k) us n) (zfl (WB g k) wb (32 * n)) tr pr le (nI n) (nI k)) H := hP
  have hD : va_D A (cws cI cL cE cP ad g n k (zfl (US g k) us n) (zfl (WB g k) wb (32 * n)) tr pr le (nI n) (nI k)) := hD
  refine lv_aload_n hx hb dX3_wholeByTrying_4 rfl (lv_at hl 0 rfl) ?_
  refine va_get (D := D) (ci := 3) (v := .ref (ad 5)) (C := RX3) (T := TX3) (N := 9) hx hb hts iX3 hown hK hP 0 cws_0 rfl 4 (by decide) (hts (.fieldLink RX3 31 "CapitalReckoner" "search" "LCapitalReckoner$Search;") (by decide +kernel)) (fun _ h9 => h9) rfl dX3_wholeByTrying_5 ?_
  refine zcalli (va_runVN (As := []) (rest := []) ⟨hx, hb, hml, hown, hts⟩ (zX2_triedWhole l D cI cL cE cP ad g n k (zfl (US g k) us n) (zfl (WB g k) wb (32 * n)) tr pr le hok H.size) ⟨va_cnB 0 hts gX3_wholeByTrying_X2_triedWhole_n192 rfl rfl rfl (hE.2 (.methodLinkNest RX3 192 yX2_triedWhole RX3) (List.mem_of_getElem? (i := 13) rfl)) (hts (.initialized RX2) (by decide +kernel)) (by decide +kernel) ⟨Nat.le_of_ble_eq_true rfl, Nat.le_of_ble_eq_true rfl⟩, (hts (.instanceMethod yX2_triedWhole) (by decide +kernel)), (hts (.selects RX2 yX2_triedWhole yX2_triedWhole) (by decide +kernel))⟩ ⟨zPw_blind, va_recv hK hP (ci := 2) (q0 := 5) rfl cws_5, zPw_mk hE hP hD⟩ rfl rfl hl.1 rfl (lv_room (Nat.le_of_ble_eq_true rfl)) dX3_wholeByTrying_8 ⟨Nat.le_of_ble_eq_true rfl, Nat.le_of_ble_eq_true rfl⟩) hD hS hA (fun r_3 H locs e_4 hP hD hS => ?_)
  obtain rfl := e_4
  have hP : va_P D vwCl (cws cI cL cE cP ad g n k (zfl (US g k) us n) (zfl (WB g k) wb (32 * n)) (trL tr n) pr le (nI n) (nI k)) H := hP
  have hD : va_D A (cws cI cL cE cP ad g n k (zfl (US g k) us n) (zfl (WB g k) wb (32 * n)) (trL tr n) pr le (nI n) (nI k)) := hD
  exact ziret (v := tfF (zfl (US g k) us n) (zfl (WB g k) wb (32 * n)) n k 0 (trL tr n) (twL (zfl (WB g k) wb (32 * n)) n)) hx hb hr hAe (by first | rfl | (simp only []; done) | (simp only []; rfl) | (simp []; done)) (zP_re hP (rfl)) (zD_re hD (rfl)) hS dX3_wholeByTrying_11
set_option maxHeartbeats 4000000 in
set_option maxRecDepth 100000 in
theorem zX3_required (l : Launch) (D : va_G) (cI cL cE cP : ClassId) (ad : Nat → Nat) (g : Nat → Nat → Int32) (n k : Nat) (us wb tr : Nat → Int32) (pr le : Nat → Int64) (tk gf : Int32) (hok : zOk g n k) (sz : Nat) : Met l yX3_required wsX3_required ({ frames := 6, cells := 0, slots := 0, locals := 131 }) (zPw D cI cL cE cP (cws cI cL cE cP ad g n k us wb tr pr le tk gf) sz [.ref (ad 0)]) (zQi D (cws cI cL cE cP ad g n k us wb tr pr le tk gf) sz (fun r : Int32 => r = if bwE (LEO (zfl (US g k) us n) (zfl (WB g k) wb (32 * n)) pr le n) k < pct (plL g n) (g 2 0) then pct (plL g n) (g 2 0) else bwE (LEO (zfl (US g k) us n) (zfl (WB g k) wb (32 * n)) pr le n) k) (cws cI cL cE cP ad g n k (zfl (US g k) us n) (zfl (WB g k) wb (32 * n)) tr (PRO (zfl (WB g k) wb (32 * n)) pr n) (LEO (zfl (US g k) us n) (zfl (WB g k) wb (32 * n)) pr le n) (nI n) (nI k))) 0 0 (va_A (cws cI cL cE cP ad g n k us wb tr pr le tk gf) sz) := by
  refine Met.ofW (cc := cX3_required) (maxL := 1) (ret := (some .int)) (by decide) rfl ?_
  intro p e s m args below meth c s₁ B hml hv
  obtain ⟨rfl, hsz, hE, hP, hD0⟩ := hv
  subst hsz
  obtain ⟨A, hAe⟩ : ∃ A, A = va_A (cws cI cL cE cP ad g n k us wb tr pr le tk gf) s.heap.size := ⟨_, rfl⟩
  have hD : va_D A (cws cI cL cE cP ad g n k us wb tr pr le tk gf) := by rw [hAe]; exact hD0.self
  have hA : ∀ q : Nat, s.heap.size ≤ q → A q := fun q h => by rw [hAe]; exact Or.inr h
  have hS : va_S A s.heap s.heap [] := va_S.rf
  have hx := B.exec
  have hb := B.bytes
  have hr := B.returns
  have hts := atoms_spec (ws := wsX3_required) B.pre
  have hown : s.vm.findClass RX3 = some m.cls := findClass_of_methodNamed B.named
  have hlocks := B.notSynchronized
  have hK := hE.1
  have iX3 : ∀ w ∈ wsX30, w ∈ wsX3_required := by decide +kernel
  have hl := lv_entry ([.ref (ad 0)]) (n := 1) (Nat.le_of_ble_eq_true rfl)
  rw [lg_entry_eq]
  generalize (lg_sl ([.ref (ad 0)]) ++ List.replicate (1 - (lg_sl ([.ref (ad 0)])).length) Slot.unset).toArray = ls at hl ⊢
  have hl : lv_has ls 1 [(0, .ref (ad 0))] := hl
  refine lv_aload_n hx hb dX3_required_0 rfl (lv_at hl 0 rfl) ?_
  refine zcalli (va_runV (As := []) (rest := []) ⟨hx, hb, hml, hown, hts⟩ (zX3_whole l D cI cL cE cP ad g n k us wb tr pr le tk gf hok s.heap.size) (cwV 0 hts gX3_required_X3_whole rfl rfl rfl (by decide +kernel) ⟨Nat.le_of_ble_eq_true rfl, Nat.le_of_ble_eq_true rfl⟩) ⟨zPw_blind, va_recv hK hP (ci := 3) (q0 := 0) rfl cws_0, zPw_mk hE hP hD⟩ rfl rfl hl.1 rfl (lv_room (Nat.le_of_ble_eq_true rfl)) dX3_required_1 ⟨Nat.le_of_ble_eq_true rfl, Nat.le_of_ble_eq_true rfl⟩) hD hS hA (fun r_1 H locs e_2 hP hD hS => ?_)
  obtain rfl := e_2
  have hP : va_P D vwCl (cws cI cL cE cP ad g n k (zfl (US g k) us n) (zfl (WB g k) wb (32 * n)) tr (PRO (zfl (WB g k) wb (32 * n)) pr n) (LEO (zfl (US g k) us n) (zfl (WB g k) wb (32 * n)) pr le n) (nI n) (nI k)) H := hP
  have hD : va_D A (cws cI cL cE cP ad g n k (zfl (US g k) us n) (zfl (WB g k) wb (32 * n)) tr (PRO (zfl (WB g k) wb (32 * n)) pr n) (LEO (zfl (US g k) us n) (zfl (WB g k) wb (32 * n)) pr le n) (nI n) (nI k)) := hD
  refine lv_aload_n hx hb dX3_required_4 rfl (lv_at hl 0 rfl) ?_
  refine vp_callSi (va_Run.run (va_runV (As := []) (rest := [.int (bwE (LEO (zfl (US g k) us n) (zfl (WB g k) wb (32 * n)) pr le n) k)]) ⟨hx, hb, hml, hown, hts⟩ (zX3_plain l D cI cL cE cP ad g n k (zfl (US g k) us n) (zfl (WB g k) wb (32 * n)) tr (PRO (zfl (WB g k) wb (32 * n)) pr n) (LEO (zfl (US g k) us n) (zfl (WB g k) wb (32 * n)) pr le n) (nI n) (nI k) hok ) (cwV 0 hts gX3_required_X3_plain rfl rfl rfl (by decide +kernel) ⟨Nat.le_of_ble_eq_true rfl, Nat.le_of_ble_eq_true rfl⟩) ⟨zPr_blind, va_recv hK hP (ci := 3) (q0 := 0) rfl cws_0, zPr_mk hE hP⟩ rfl rfl hl.1 rfl (lv_room (Nat.le_of_ble_eq_true rfl)) dX3_required_5 ⟨Nat.le_of_ble_eq_true rfl, Nat.le_of_ble_eq_true rfl⟩)) (fun r_3 e_4 => ?_)
  obtain rfl := e_4
  refine lv_aload_n hx hb dX3_required_8 rfl (lv_at hl 0 rfl) ?_
  refine va_get (D := D) (ci := 3) (v := .int (g 2 0)) (C := RX3) (T := TX3) (N := 9) hx hb hts iX3 hown hK hP 0 cws_0 rfl 7 (by decide) (hts (.fieldLink RX3 42 "CapitalReckoner" "floor" "I") (by decide +kernel)) (fun _ h9 => h9) rfl dX3_required_9 ?_
  refine vp_callSi (va_Run.run (va_runS (As := [.int (plL g n), .int (g 2 0)]) (rest := [.int (bwE (LEO (zfl (US g k) us n) (zfl (WB g k) wb (32 * n)) pr le n) k)]) ⟨hx, hb, hml, hown, hts⟩ (zX3_percentOf l D cI cL cE cP (cws cI cL cE cP ad g n k (zfl (US g k) us n) (zfl (WB g k) wb (32 * n)) tr (PRO (zfl (WB g k) wb (32 * n)) pr n) (LEO (zfl (US g k) us n) (zfl (WB g k) wb (32 * n)) pr le n) (nI n) (nI k)) (plL g n) (g 2 0)) (va_cwS 2 hts gX3_required_X3_percentOf rfl rfl rfl (by decide +kernel) ⟨Nat.le_of_ble_eq_true rfl, Nat.le_of_ble_eq_true rfl⟩) ⟨zPr_blind, zPr_mk hE hP⟩ rfl rfl hl.1 rfl (lv_room (Nat.le_of_ble_eq_true rfl)) dX3_required_12 ⟨Nat.le_of_ble_eq_true rfl, Nat.le_of_ble_eq_true rfl⟩)) (fun r_5 e_6 => ?_)
  obtain rfl := e_6
  refine va_mmax hx hb (hml.trans hl.1.symm) hown (hts (.methodLink RX3 208 Lib.Math.max.name) (by decide +kernel)) (hts (.static Lib.Math.max.name) (by decide +kernel)) (hts (.initialized "java/lang/Math") (by decide +kernel)) (hts (.code Lib.Math.max.name Lib.Math.max.code 2 (some .int)) (by decide +kernel)) (Nat.le_of_ble_eq_true rfl) (Nat.le_of_ble_eq_true rfl) (Nat.zero_le _) (Nat.zero_le _) dX3_required_15 ?_
  exact ziret (v := if bwE (LEO (zfl (US g k) us n) (zfl (WB g k) wb (32 * n)) pr le n) k < pct (plL g n) (g 2 0) then pct (plL g n) (g 2 0) else bwE (LEO (zfl (US g k) us n) (zfl (WB g k) wb (32 * n)) pr le n) k) hx hb hr hAe (by first | rfl | (simp only []; done) | (simp only []; rfl) | (simp []; done)) (zP_re hP (rfl)) (zD_re hD (rfl)) hS dX3_required_18
set_option maxHeartbeats 4000000 in
set_option maxRecDepth 100000 in
theorem zX3_tooLarge (l : Launch) (D : va_G) (cI cL cE cP : ClassId) (ad : Nat → Nat) (g : Nat → Nat → Int32) (n k : Nat) (us wb tr : Nat → Int32) (pr le : Nat → Int64) (tk gf : Int32) (hok : zOk g n k) (sz : Nat) : Met l yX3_tooLarge wsX3_tooLarge ({ frames := 5, cells := 0, slots := 0, locals := 111 }) (zPw D cI cL cE cP (cws cI cL cE cP ad g n k us wb tr pr le tk gf) sz [.ref (ad 0)]) (zQi D (cws cI cL cE cP ad g n k us wb tr pr le tk gf) sz (fun r : Int32 => r = tlL g n k (LEO (zfl (US g k) us n) (zfl (WB g k) wb (32 * n)) pr le n) 4) (cws cI cL cE cP ad g n k (zfl (US g k) us n) (zfl (WB g k) wb (32 * n)) tr (PRO (zfl (WB g k) wb (32 * n)) pr n) (LEO (zfl (US g k) us n) (zfl (WB g k) wb (32 * n)) pr le n) (nI n) (nI k))) 0 0 (va_A (cws cI cL cE cP ad g n k us wb tr pr le tk gf) sz) := by
  refine Met.ofW (cc := cX3_tooLarge) (maxL := 3) (ret := (some .int)) (by decide) rfl ?_
  intro p e s m args below meth c s₁ B hml hv
  obtain ⟨rfl, hsz, hE, hP, hD0⟩ := hv
  subst hsz
  obtain ⟨A, hAe⟩ : ∃ A, A = va_A (cws cI cL cE cP ad g n k us wb tr pr le tk gf) s.heap.size := ⟨_, rfl⟩
  have hD : va_D A (cws cI cL cE cP ad g n k us wb tr pr le tk gf) := by rw [hAe]; exact hD0.self
  have hA : ∀ q : Nat, s.heap.size ≤ q → A q := fun q h => by rw [hAe]; exact Or.inr h
  have hS : va_S A s.heap s.heap [] := va_S.rf
  have hx := B.exec
  have hb := B.bytes
  have hr := B.returns
  have hts := atoms_spec (ws := wsX3_tooLarge) B.pre
  have hown : s.vm.findClass RX3 = some m.cls := findClass_of_methodNamed B.named
  have hlocks := B.notSynchronized
  have hK := hE.1
  have iX3 : ∀ w ∈ wsX30, w ∈ wsX3_tooLarge := by decide +kernel
  have hl := lv_entry ([.ref (ad 0)]) (n := 3) (Nat.le_of_ble_eq_true rfl)
  rw [lg_entry_eq]
  generalize (lg_sl ([.ref (ad 0)]) ++ List.replicate (3 - (lg_sl ([.ref (ad 0)])).length) Slot.unset).toArray = ls at hl ⊢
  have hl : lv_has ls 3 [(0, .ref (ad 0))] := hl
  refine lv_aload_n hx hb dX3_tooLarge_0 rfl (lv_at hl 0 rfl) ?_
  refine zcallv (va_runV (As := []) (rest := []) ⟨hx, hb, hml, hown, hts⟩ (zX3_findBest l D cI cL cE cP ad g n k us wb tr pr le tk gf hok s.heap.size) (cwV 0 hts gX3_tooLarge_X3_findBest rfl rfl rfl (by decide +kernel) ⟨Nat.le_of_ble_eq_true rfl, Nat.le_of_ble_eq_true rfl⟩) ⟨zPw_blind, va_recv hK hP (ci := 3) (q0 := 0) rfl cws_0, zPw_mk hE hP hD⟩ rfl rfl hl.1 rfl (lv_room (Nat.le_of_ble_eq_true rfl)) dX3_tooLarge_1 ⟨Nat.le_of_ble_eq_true rfl, Nat.le_of_ble_eq_true rfl⟩) hD hS hA (fun H locs hP hD hS => ?_)
  have hP : va_P D vwCl (cws cI cL cE cP ad g n k (zfl (US g k) us n) (zfl (WB g k) wb (32 * n)) tr (PRO (zfl (WB g k) wb (32 * n)) pr n) (LEO (zfl (US g k) us n) (zfl (WB g k) wb (32 * n)) pr le n) (nI n) (nI k)) H := hP
  have hD : va_D A (cws cI cL cE cP ad g n k (zfl (US g k) us n) (zfl (WB g k) wb (32 * n)) tr (PRO (zfl (WB g k) wb (32 * n)) pr n) (LEO (zfl (US g k) us n) (zfl (WB g k) wb (32 * n)) pr le n) (nI n) (nI k)) := hD
  refine lv_iconst (v := 0) hx hb dX3_tooLarge_4 (by decide) ?_
  refine lv_istore_n (lv' := [(1, .int 0), (0, .ref (ad 0))]) hx hb dX3_tooLarge_5 rfl hl (by decide) rfl (fun ls hl => ?_)
  refine lv_iconst (v := 0) hx hb dX3_tooLarge_6 (by decide) ?_
  refine lv_istore_n (lv' := [(2, .int 0), (1, .int 0), (0, .ref (ad 0))]) hx hb dX3_tooLarge_7 rfl hl (by decide) rfl (fun ls hl => ?_)
  refine zloopM (nL := 3) (lv := fun i => [(0, .ref (ad 0)), (1, .int (tlL g n k (LEO (zfl (US g k) us n) (zfl (WB g k) wb (32 * n)) pr le n) (i))), (2, .int (nI (i)))]) (wd := fun i => cws cI cL cE cP ad g n k (zfl (US g k) us n) (zfl (WB g k) wb (32 * n)) tr (PRO (zfl (WB g k) wb (32 * n)) pr n) (LEO (zfl (US g k) us n) (zfl (WB g k) wb (32 * n)) pr le n) (nI n) (nI k)) (n := 4) (lv_re (lv_sub hl [2, 1, 0] rfl) (by first | rfl | (simp only [tlL, nI_0]; done) | (simp only [tlL, nI_0]; rfl) | (simp [tlL, nI_0]; done))) (zP_re hP (by rfl)) (zD_re hD (by rfl)) hS (fun H locs ls hP hD hS hl => ?_) (fun i hi ih_8 H locs ls hP hD hS hl => ?_)
  · have hl : lv_has ls 3 [(0, .ref (ad 0)), (1, .int (tlL g n k (LEO (zfl (US g k) us n) (zfl (WB g k) wb (32 * n)) pr le n) (4))), (2, .int (nI (4)))] := hl
    have hP : va_P D vwCl (cws cI cL cE cP ad g n k (zfl (US g k) us n) (zfl (WB g k) wb (32 * n)) tr (PRO (zfl (WB g k) wb (32 * n)) pr n) (LEO (zfl (US g k) us n) (zfl (WB g k) wb (32 * n)) pr le n) (nI n) (nI k)) H := hP
    have hD : va_D A (cws cI cL cE cP ad g n k (zfl (US g k) us n) (zfl (WB g k) wb (32 * n)) tr (PRO (zfl (WB g k) wb (32 * n)) pr n) (LEO (zfl (US g k) us n) (zfl (WB g k) wb (32 * n)) pr le n) (nI n) (nI k)) := hD
    refine lv_iload_n hx hb dX3_tooLarge_8 rfl (lv_at hl 2 rfl) ?_
    refine lv_iconst (v := 4) hx hb dX3_tooLarge_9 (by decide) ?_
    refine lv_icmp_ge (tgt := 39) hx hb dX3_tooLarge_10 (by decide) (fun c_3 => ?_) (fun c_3 => absurd (zle_refl (nI 4)) c_3)
    refine lv_iload_n hx hb dX3_tooLarge_39 rfl (lv_at hl 1 rfl) ?_
    exact ziret (v := tlL g n k (LEO (zfl (US g k) us n) (zfl (WB g k) wb (32 * n)) pr le n) (4)) hx hb hr hAe (by first | rfl | (simp only [tlL, c_3]; done) | (simp only [tlL, c_3]; rfl) | (simp [tlL, c_3]; done)) (zP_re hP (rfl)) (zD_re hD (rfl)) hS dX3_tooLarge_40
  · have hl : lv_has ls 3 [(0, .ref (ad 0)), (1, .int (tlL g n k (LEO (zfl (US g k) us n) (zfl (WB g k) wb (32 * n)) pr le n) (i))), (2, .int (nI (i)))] := hl
    have hP : va_P D vwCl (cws cI cL cE cP ad g n k (zfl (US g k) us n) (zfl (WB g k) wb (32 * n)) tr (PRO (zfl (WB g k) wb (32 * n)) pr n) (LEO (zfl (US g k) us n) (zfl (WB g k) wb (32 * n)) pr le n) (nI n) (nI k)) H := hP
    have hD : va_D A (cws cI cL cE cP ad g n k (zfl (US g k) us n) (zfl (WB g k) wb (32 * n)) tr (PRO (zfl (WB g k) wb (32 * n)) pr n) (LEO (zfl (US g k) us n) (zfl (WB g k) wb (32 * n)) pr le n) (nI n) (nI k)) := hD
    refine lv_iload_n hx hb dX3_tooLarge_8 rfl (lv_at hl 2 rfl) ?_
    refine lv_iconst (v := 4) hx hb dX3_tooLarge_9 (by decide) ?_
    refine lv_icmp_ge (tgt := 39) hx hb dX3_tooLarge_10 (by decide) (fun c_4 => absurd c_4 (nI_ge hi (by decide))) (fun c_4 => ?_)
    refine lv_aload_n hx hb dX3_tooLarge_13 rfl (lv_at hl 0 rfl) ?_
    refine lv_iload_n hx hb dX3_tooLarge_14 rfl (lv_at hl 2 rfl) ?_
    refine vp_callSi (va_Run.run (va_runV (As := [.int (nI (i))]) (rest := []) ⟨hx, hb, hml, hown, hts⟩ (zX3_bareOfParty l D cI cL cE cP ad g n k (zfl (US g k) us n) (zfl (WB g k) wb (32 * n)) tr (PRO (zfl (WB g k) wb (32 * n)) pr n) (LEO (zfl (US g k) us n) (zfl (WB g k) wb (32 * n)) pr le n) hok (nI (i))) (cwV 1 hts gX3_tooLarge_X3_bareOfParty rfl rfl rfl (by decide +kernel) ⟨Nat.le_of_ble_eq_true rfl, Nat.le_of_ble_eq_true rfl⟩) ⟨zPr_blind, va_recv hK hP (ci := 3) (q0 := 0) rfl cws_0, zPr_mk hE hP⟩ rfl rfl hl.1 rfl (lv_room (Nat.le_of_ble_eq_true rfl)) dX3_tooLarge_15 ⟨Nat.le_of_ble_eq_true rfl, Nat.le_of_ble_eq_true rfl⟩)) (fun r_5 e_6 => ?_)
    obtain rfl := e_6
    refine lv_aload_n hx hb dX3_tooLarge_18 rfl (lv_at hl 0 rfl) ?_
    refine va_get (D := D) (ci := 3) (v := .int (g 2 1)) (C := RX3) (T := TX3) (N := 9) hx hb hts iX3 hown hK hP 0 cws_0 rfl 8 (by decide) (hts (.fieldLink RX3 45 "CapitalReckoner" "capital" "I") (by decide +kernel)) (fun _ h9 => h9) rfl dX3_tooLarge_19 ?_
    refine lv_iconst (v := 4) hx hb dX3_tooLarge_22 (by decide) ?_
    refine lv_idiv hx hb dX3_tooLarge_23 (by decide) ?_
    refine lv_icmp_le (tgt := 33) hx hb dX3_tooLarge_24 (by decide) (fun c_7 => ?_) (fun c_7 => ?_)
    · refine lv_iinc (v := nI ((i) + 1)) (lv' := [(2, .int (nI ((i) + 1))), (0, .ref (ad 0)), (1, .int (tlL g n k (LEO (zfl (US g k) us n) (zfl (WB g k) wb (32 * n)) pr le n) (i)))]) hx hb dX3_tooLarge_33 hl (k := 2) rfl (zinc _) (by decide) rfl (fun ls hl => ?_)
      refine lv_goto (tgt := 8) hx hb dX3_tooLarge_36 (by decide) ?_
      exact ih_8 H locs ls (zP_re hP (by rfl)) (zD_re hD (by rfl)) hS (lv_re (lv_sub hl [1, 2, 0] rfl) (by first | rfl | (simp only [tlL, c_4, c_7]; done) | (simp only [tlL, c_4, c_7]; rfl) | (simp [tlL, c_4, c_7]; done)))
    · refine lv_iload_n hx hb dX3_tooLarge_27 rfl (lv_at hl 1 rfl) ?_
      refine lv_iconst (v := 1) hx hb dX3_tooLarge_28 (by decide) ?_
      refine lv_iload_n hx hb dX3_tooLarge_29 rfl (lv_at hl 2 rfl) ?_
      refine lv_ishl hx hb dX3_tooLarge_30 ?_
      refine lv_ior hx hb dX3_tooLarge_31 ?_
      refine lv_istore_n (lv' := [(1, .int ((tlL g n k (LEO (zfl (US g k) us n) (zfl (WB g k) wb (32 * n)) pr le n) (i)) ||| ((1 : Int32) <<< ((nI (i)) &&& 31)))), (0, .ref (ad 0)), (2, .int (nI (i)))]) hx hb dX3_tooLarge_32 rfl hl (by decide) rfl (fun ls hl => ?_)
      refine lv_iinc (v := nI ((i) + 1)) (lv' := [(2, .int (nI ((i) + 1))), (1, .int ((tlL g n k (LEO (zfl (US g k) us n) (zfl (WB g k) wb (32 * n)) pr le n) (i)) ||| ((1 : Int32) <<< ((nI (i)) &&& 31)))), (0, .ref (ad 0))]) hx hb dX3_tooLarge_33 hl (k := 2) rfl (zinc _) (by decide) rfl (fun ls hl => ?_)
      refine lv_goto (tgt := 8) hx hb dX3_tooLarge_36 (by decide) ?_
      exact ih_8 H locs ls (zP_re hP (by rfl)) (zD_re hD (by rfl)) hS (lv_re (lv_sub hl [2, 1, 0] rfl) (by first | rfl | (simp only [tlL, c_4, c_7]; done) | (simp only [tlL, c_4, c_7]; rfl) | (simp [tlL, c_4, c_7]; done)))
end
