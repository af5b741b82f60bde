theorem dX0_init_0 : decode cX0_init 0 = .ok (.aload_n 0, 1) := by decide +kernel
theorem dX0_init_1 : decode cX0_init 1 = .ok (.invokespecial 3, 3) := by decide +kernel
theorem dX0_init_4 : decode cX0_init 4 = .ok (.aload_n 0, 1) := by decide +kernel
theorem dX0_init_5 : decode cX0_init 5 = .ok (.iload_n 1, 1) := by decide +kernel
theorem dX0_init_6 : decode cX0_init 6 = .ok (.putfield 9, 3) := by decide +kernel
theorem dX0_init_9 : decode cX0_init 9 = .ok (.aload_n 0, 1) := by decide +kernel
theorem dX0_init_10 : decode cX0_init 10 = .ok (.iload_n 2, 1) := by decide +kernel
theorem dX0_init_11 : decode cX0_init 11 = .ok (.putfield 15, 3) := by decide +kernel
theorem dX0_init_14 : decode cX0_init 14 = .ok (.aload_n 0, 1) := by decide +kernel
theorem dX0_init_15 : decode cX0_init 15 = .ok (.iload_n 3, 1) := by decide +kernel
theorem dX0_init_16 : decode cX0_init 16 = .ok (.putfield 18, 3) := by decide +kernel
theorem dX0_init_19 : decode cX0_init 19 = .ok (.aload_n 0, 1) := by decide +kernel
theorem dX0_init_20 : decode cX0_init 20 = .ok (.iload 4, 2) := by decide +kernel
theorem dX0_init_22 : decode cX0_init 22 = .ok (.putfield 21, 3) := by decide +kernel
theorem dX0_init_25 : decode cX0_init 25 = .ok (.aload_n 0, 1) := by decide +kernel
theorem dX0_init_26 : decode cX0_init 26 = .ok (.iload 5, 2) := by decide +kernel
theorem dX0_init_28 : decode cX0_init 28 = .ok (.putfield 24, 3) := by decide +kernel
theorem dX0_init_31 : decode cX0_init 31 = .ok (.aload_n 0, 1) := by decide +kernel
theorem dX0_init_32 : decode cX0_init 32 = .ok (.iload 6, 2) := by decide +kernel
theorem dX0_init_34 : decode cX0_init 34 = .ok (.putfield 27, 3) := by decide +kernel
theorem dX0_init_37 : decode cX0_init 37 = .ok (.aload_n 0, 1) := by decide +kernel
theorem dX0_init_38 : decode cX0_init 38 = .ok (.iconst 0, 1) := by decide +kernel
theorem dX0_init_39 : decode cX0_init 39 = .ok (.putfield 30, 3) := by decide +kernel
theorem dX0_init_42 : decode cX0_init 42 = .ok (.aload_n 0, 1) := by decide +kernel
theorem dX0_init_43 : decode cX0_init 43 = .ok (.iconst 0, 1) := by decide +kernel
theorem dX0_init_44 : decode cX0_init 44 = .ok (.putfield 33, 3) := by decide +kernel
theorem dX0_init_47 : decode cX0_init 47 = .ok (.return_, 1) := by decide +kernel
set_option maxRecDepth 20000 in
theorem ggX0_amountNow_X3_percentOf : GoodIn wsX0_amountNow wsX3_percentOf := goodIn_r _ [5, 6] (by decide +kernel) (by decide +kernel)
set_option maxRecDepth 20000 in
theorem gX0_amountNow_X3_percentOf_n36 : GoodIn wsX0_amountNow (wsX3_percentOf) := ggX0_amountNow_X3_percentOf
theorem dX0_amountNow_0 : decode cX0_amountNow 0 = .ok (.aload_n 0, 1) := by decide +kernel
theorem dX0_amountNow_1 : decode cX0_amountNow 1 = .ok (.getfield 18, 3) := by decide +kernel
theorem dX0_amountNow_4 : decode cX0_amountNow 4 = .ok (.aload_n 0, 1) := by decide +kernel
theorem dX0_amountNow_5 : decode cX0_amountNow 5 = .ok (.getfield 21, 3) := by decide +kernel
theorem dX0_amountNow_8 : decode cX0_amountNow 8 = .ok (.bipush 40, 2) := by decide +kernel
theorem dX0_amountNow_10 : decode cX0_amountNow 10 = .ok (.invokestatic 36, 3) := by decide +kernel
theorem dX0_amountNow_13 : decode cX0_amountNow 13 = .ok (.iadd, 1) := by decide +kernel
theorem dX0_amountNow_14 : decode cX0_amountNow 14 = .ok (.ireturn, 1) := by decide +kernel
theorem dX1_init_0 : decode cX1_init 0 = .ok (.aload_n 0, 1) := by decide +kernel
theorem dX1_init_1 : decode cX1_init 1 = .ok (.invokespecial 3, 3) := by decide +kernel
theorem dX1_init_4 : decode cX1_init 4 = .ok (.aload_n 0, 1) := by decide +kernel
theorem dX1_init_5 : decode cX1_init 5 = .ok (.iload_n 1, 1) := by decide +kernel
theorem dX1_init_6 : decode cX1_init 6 = .ok (.putfield 9, 3) := by decide +kernel
theorem dX1_init_9 : decode cX1_init 9 = .ok (.aload_n 0, 1) := by decide +kernel
theorem dX1_init_10 : decode cX1_init 10 = .ok (.iload_n 2, 1) := by decide +kernel
theorem dX1_init_11 : decode cX1_init 11 = .ok (.putfield 15, 3) := by decide +kernel
theorem dX1_init_14 : decode cX1_init 14 = .ok (.aload_n 0, 1) := by decide +kernel
theorem dX1_init_15 : decode cX1_init 15 = .ok (.iload_n 3, 1) := by decide +kernel
theorem dX1_init_16 : decode cX1_init 16 = .ok (.putfield 18, 3) := by decide +kernel
theorem dX1_init_19 : decode cX1_init 19 = .ok (.aload_n 0, 1) := by decide +kernel
theorem dX1_init_20 : decode cX1_init 20 = .ok (.iload 4, 2) := by decide +kernel
theorem dX1_init_22 : decode cX1_init 22 = .ok (.putfield 21, 3) := by decide +kernel
theorem dX1_init_25 : decode cX1_init 25 = .ok (.aload_n 0, 1) := by decide +kernel
theorem dX1_init_26 : decode cX1_init 26 = .ok (.iload 5, 2) := by decide +kernel
theorem dX1_init_28 : decode cX1_init 28 = .ok (.putfield 24, 3) := by decide +kernel
theorem dX1_init_31 : decode cX1_init 31 = .ok (.return_, 1) := by decide +kernel
set_option maxRecDepth 20000 in
theorem ggX1_valueFor_X3_percentOf : GoodIn wsX1_valueFor wsX3_percentOf := goodIn_r _ [7, 8] (by decide +kernel) (by decide +kernel)
set_option maxRecDepth 20000 in
theorem gX1_valueFor_X3_percentOf_n27 : GoodIn wsX1_valueFor (wsX3_percentOf) := ggX1_valueFor_X3_percentOf
theorem dX1_valueFor_0 : decode cX1_valueFor 0 = .ok (.aload_n 0, 1) := by decide +kernel
theorem dX1_valueFor_1 : decode cX1_valueFor 1 = .ok (.getfield 9, 3) := by decide +kernel
theorem dX1_valueFor_4 : decode cX1_valueFor 4 = .ok (.bipush 100, 2) := by decide +kernel
theorem dX1_valueFor_6 : decode cX1_valueFor 6 = .ok (.aload_n 0, 1) := by decide +kernel
theorem dX1_valueFor_7 : decode cX1_valueFor 7 = .ok (.getfield 15, 3) := by decide +kernel
theorem dX1_valueFor_10 : decode cX1_valueFor 10 = .ok (.isub, 1) := by decide +kernel
theorem dX1_valueFor_11 : decode cX1_valueFor 11 = .ok (.invokestatic 27, 3) := by decide +kernel
theorem dX1_valueFor_14 : decode cX1_valueFor 14 = .ok (.istore_n 2, 1) := by decide +kernel
theorem dX1_valueFor_15 : decode cX1_valueFor 15 = .ok (.aload_n 0, 1) := by decide +kernel
theorem dX1_valueFor_16 : decode cX1_valueFor 16 = .ok (.getfield 18, 3) := by decide +kernel
theorem dX1_valueFor_19 : decode cX1_valueFor 19 = .ok (.aload_n 1, 1) := by decide +kernel
theorem dX1_valueFor_20 : decode cX1_valueFor 20 = .ok (.getfield 31, 3) := by decide +kernel
theorem dX1_valueFor_23 : decode cX1_valueFor 23 = .ok (.if_icmp .eq 10, 3) := by decide +kernel
theorem dX1_valueFor_26 : decode cX1_valueFor 26 = .ok (.iload_n 2, 1) := by decide +kernel
theorem dX1_valueFor_27 : decode cX1_valueFor 27 = .ok (.bipush 92, 2) := by decide +kernel
theorem dX1_valueFor_29 : decode cX1_valueFor 29 = .ok (.invokestatic 27, 3) := by decide +kernel
theorem dX1_valueFor_32 : decode cX1_valueFor 32 = .ok (.istore_n 2, 1) := by decide +kernel
theorem dX1_valueFor_33 : decode cX1_valueFor 33 = .ok (.aload_n 1, 1) := by decide +kernel
theorem dX1_valueFor_34 : decode cX1_valueFor 34 = .ok (.getfield 34, 3) := by decide +kernel
theorem dX1_valueFor_37 : decode cX1_valueFor 37 = .ok (.ifCond .le 30, 3) := by decide +kernel
theorem dX1_valueFor_40 : decode cX1_valueFor 40 = .ok (.aload_n 0, 1) := by decide +kernel
theorem dX1_valueFor_41 : decode cX1_valueFor 41 = .ok (.getfield 21, 3) := by decide +kernel
theorem dX1_valueFor_44 : decode cX1_valueFor 44 = .ok (.aload_n 1, 1) := by decide +kernel
theorem dX1_valueFor_45 : decode cX1_valueFor 45 = .ok (.getfield 34, 3) := by decide +kernel
theorem dX1_valueFor_48 : decode cX1_valueFor 48 = .ok (.if_icmp .ge 19, 3) := by decide +kernel
theorem dX1_valueFor_51 : decode cX1_valueFor 51 = .ok (.iload_n 2, 1) := by decide +kernel
theorem dX1_valueFor_52 : decode cX1_valueFor 52 = .ok (.i2l, 1) := by decide +kernel
theorem dX1_valueFor_53 : decode cX1_valueFor 53 = .ok (.aload_n 0, 1) := by decide +kernel
theorem dX1_valueFor_54 : decode cX1_valueFor 54 = .ok (.getfield 21, 3) := by decide +kernel
theorem dX1_valueFor_57 : decode cX1_valueFor 57 = .ok (.i2l, 1) := by decide +kernel
theorem dX1_valueFor_58 : decode cX1_valueFor 58 = .ok (.lmul, 1) := by decide +kernel
theorem dX1_valueFor_59 : decode cX1_valueFor 59 = .ok (.aload_n 1, 1) := by decide +kernel
theorem dX1_valueFor_60 : decode cX1_valueFor 60 = .ok (.getfield 34, 3) := by decide +kernel
theorem dX1_valueFor_63 : decode cX1_valueFor 63 = .ok (.i2l, 1) := by decide +kernel
theorem dX1_valueFor_64 : decode cX1_valueFor 64 = .ok (.ldiv, 1) := by decide +kernel
theorem dX1_valueFor_65 : decode cX1_valueFor 65 = .ok (.l2i, 1) := by decide +kernel
theorem dX1_valueFor_66 : decode cX1_valueFor 66 = .ok (.istore_n 2, 1) := by decide +kernel
theorem dX1_valueFor_67 : decode cX1_valueFor 67 = .ok (.iload_n 2, 1) := by decide +kernel
theorem dX1_valueFor_68 : decode cX1_valueFor 68 = .ok (.ireturn, 1) := by decide +kernel
theorem dX2_init_0 : decode cX2_init 0 = .ok (.aload_n 0, 1) := by decide +kernel
theorem dX2_init_1 : decode cX2_init 1 = .ok (.invokespecial 5, 3) := by decide +kernel
theorem dX2_init_4 : decode cX2_init 4 = .ok (.aload_n 0, 1) := by decide +kernel
theorem dX2_init_5 : decode cX2_init 5 = .ok (.bipush 8, 2) := by decide +kernel
theorem dX2_init_7 : decode cX2_init 7 = .ok (.newarray .int, 2) := by decide +kernel
theorem dX2_init_9 : decode cX2_init 9 = .ok (.putfield 11, 3) := by decide +kernel
theorem dX2_init_12 : decode cX2_init 12 = .ok (.aload_n 0, 1) := by decide +kernel
theorem dX2_init_13 : decode cX2_init 13 = .ok (.sipush 256, 3) := by decide +kernel
theorem dX2_init_16 : decode cX2_init 16 = .ok (.newarray .int, 2) := by decide +kernel
theorem dX2_init_18 : decode cX2_init 18 = .ok (.putfield 15, 3) := by decide +kernel
theorem dX2_init_21 : decode cX2_init 21 = .ok (.aload_n 0, 1) := by decide +kernel
theorem dX2_init_22 : decode cX2_init 22 = .ok (.bipush 8, 2) := by decide +kernel
theorem dX2_init_24 : decode cX2_init 24 = .ok (.newarray .int, 2) := by decide +kernel
theorem dX2_init_26 : decode cX2_init 26 = .ok (.putfield 18, 3) := by decide +kernel
theorem dX2_init_29 : decode cX2_init 29 = .ok (.aload_n 0, 1) := by decide +kernel
theorem dX2_init_30 : decode cX2_init 30 = .ok (.bipush 32, 2) := by decide +kernel
theorem dX2_init_32 : decode cX2_init 32 = .ok (.newarray .long, 2) := by decide +kernel
theorem dX2_init_34 : decode cX2_init 34 = .ok (.putfield 21, 3) := by decide +kernel
theorem dX2_init_37 : decode cX2_init 37 = .ok (.aload_n 0, 1) := by decide +kernel
theorem dX2_init_38 : decode cX2_init 38 = .ok (.bipush 32, 2) := by decide +kernel
theorem dX2_init_40 : decode cX2_init 40 = .ok (.newarray .long, 2) := by decide +kernel
theorem dX2_init_42 : decode cX2_init 42 = .ok (.putfield 25, 3) := by decide +kernel
theorem dX2_init_45 : decode cX2_init 45 = .ok (.return_, 1) := by decide +kernel
theorem dX2_begin_0 : decode cX2_begin 0 = .ok (.aload_n 0, 1) := by decide +kernel
theorem dX2_begin_1 : decode cX2_begin 1 = .ok (.iload_n 1, 1) := by decide +kernel
theorem dX2_begin_2 : decode cX2_begin 2 = .ok (.bipush 8, 2) := by decide +kernel
theorem dX2_begin_4 : decode cX2_begin 4 = .ok (.invokestatic 28, 3) := by decide +kernel
theorem dX2_begin_7 : decode cX2_begin 7 = .ok (.putfield 34, 3) := by decide +kernel
theorem dX2_begin_10 : decode cX2_begin 10 = .ok (.aload_n 0, 1) := by decide +kernel
theorem dX2_begin_11 : decode cX2_begin 11 = .ok (.iload_n 2, 1) := by decide +kernel
theorem dX2_begin_12 : decode cX2_begin 12 = .ok (.iconst 5, 1) := by decide +kernel
theorem dX2_begin_13 : decode cX2_begin 13 = .ok (.invokestatic 28, 3) := by decide +kernel
theorem dX2_begin_16 : decode cX2_begin 16 = .ok (.putfield 38, 3) := by decide +kernel
theorem dX2_begin_19 : decode cX2_begin 19 = .ok (.return_, 1) := by decide +kernel
set_option maxRecDepth 20000 in
theorem ggX2_setUsable_X3_put : GoodIn wsX2_setUsable wsX3_put := goodIn_r _ [4] (by decide +kernel) (by decide +kernel)
set_option maxRecDepth 20000 in
theorem gX2_setUsable_X3_put_n41 : GoodIn wsX2_setUsable (wsX3_put) := ggX2_setUsable_X3_put
theorem dX2_setUsable_0 : decode cX2_setUsable 0 = .ok (.aload_n 0, 1) := by decide +kernel
theorem dX2_setUsable_1 : decode cX2_setUsable 1 = .ok (.getfield 11, 3) := by decide +kernel
theorem dX2_setUsable_4 : decode cX2_setUsable 4 = .ok (.iload_n 1, 1) := by decide +kernel
theorem dX2_setUsable_5 : decode cX2_setUsable 5 = .ok (.iload_n 2, 1) := by decide +kernel
theorem dX2_setUsable_6 : decode cX2_setUsable 6 = .ok (.invokestatic 41, 3) := by decide +kernel
theorem dX2_setUsable_9 : decode cX2_setUsable 9 = .ok (.return_, 1) := by decide +kernel
set_option maxRecDepth 20000 in
theorem ggX2_setWeighted_X3_put : GoodIn wsX2_setWeighted wsX3_put := goodIn_r _ [4] (by decide +kernel) (by decide +kernel)
set_option maxRecDepth 20000 in
theorem gX2_setWeighted_X3_put_n41 : GoodIn wsX2_setWeighted (wsX3_put) := ggX2_setWeighted_X3_put
theorem dX2_setWeighted_0 : decode cX2_setWeighted 0 = .ok (.aload_n 0, 1) := by decide +kernel
theorem dX2_setWeighted_1 : decode cX2_setWeighted 1 = .ok (.getfield 15, 3) := by decide +kernel
theorem dX2_setWeighted_4 : decode cX2_setWeighted 4 = .ok (.iload_n 1, 1) := by decide +kernel
theorem dX2_setWeighted_5 : decode cX2_setWeighted 5 = .ok (.bipush 32, 2) := by decide +kernel
theorem dX2_setWeighted_7 : decode cX2_setWeighted 7 = .ok (.imul, 1) := by decide +kernel
theorem dX2_setWeighted_8 : decode cX2_setWeighted 8 = .ok (.iload_n 2, 1) := by decide +kernel
theorem dX2_setWeighted_9 : decode cX2_setWeighted 9 = .ok (.iadd, 1) := by decide +kernel
theorem dX2_setWeighted_10 : decode cX2_setWeighted 10 = .ok (.iload_n 3, 1) := by decide +kernel
theorem dX2_setWeighted_11 : decode cX2_setWeighted 11 = .ok (.invokestatic 41, 3) := by decide +kernel
theorem dX2_setWeighted_14 : decode cX2_setWeighted 14 = .ok (.return_, 1) := by decide +kernel
set_option maxRecDepth 20000 in
theorem ggX2_weightedWith_X3_at : GoodIn wsX2_weightedWith wsX3_at := goodIn_r _ [4] (by decide +kernel) (by decide +kernel)
set_option maxRecDepth 20000 in
theorem gX2_weightedWith_X3_at_n45 : GoodIn wsX2_weightedWith (wsX3_at) := ggX2_weightedWith_X3_at
theorem dX2_weightedWith_0 : decode cX2_weightedWith 0 = .ok (.aload_n 0, 1) := by decide +kernel
theorem dX2_weightedWith_1 : decode cX2_weightedWith 1 = .ok (.getfield 15, 3) := by decide +kernel
theorem dX2_weightedWith_4 : decode cX2_weightedWith 4 = .ok (.iload_n 1, 1) := by decide +kernel
theorem dX2_weightedWith_5 : decode cX2_weightedWith 5 = .ok (.bipush 32, 2) := by decide +kernel
theorem dX2_weightedWith_7 : decode cX2_weightedWith 7 = .ok (.imul, 1) := by decide +kernel
theorem dX2_weightedWith_8 : decode cX2_weightedWith 8 = .ok (.iload_n 2, 1) := by decide +kernel
theorem dX2_weightedWith_9 : decode cX2_weightedWith 9 = .ok (.iadd, 1) := by decide +kernel
theorem dX2_weightedWith_10 : decode cX2_weightedWith 10 = .ok (.invokestatic 45, 3) := by decide +kernel
theorem dX2_weightedWith_13 : decode cX2_weightedWith 13 = .ok (.ireturn, 1) := by decide +kernel
theorem dX2_digitShift_0 : decode cX2_digitShift 0 = .ok (.iconst 4, 1) := by decide +kernel
theorem dX2_digitShift_1 : decode cX2_digitShift 1 = .ok (.iconst 4, 1) := by decide +kernel
theorem dX2_digitShift_2 : decode cX2_digitShift 2 = .ok (.iload_n 0, 1) := by decide +kernel
theorem dX2_digitShift_3 : decode cX2_digitShift 3 = .ok (.isub, 1) := by decide +kernel
theorem dX2_digitShift_4 : decode cX2_digitShift 4 = .ok (.imul, 1) := by decide +kernel
theorem dX2_digitShift_5 : decode cX2_digitShift 5 = .ok (.ireturn, 1) := by decide +kernel
set_option maxRecDepth 20000 in
theorem ggX2_digitsOf_X3_has : GoodIn wsX2_digitsOf wsX3_has := goodIn_r _ [3] (by decide +kernel) (by decide +kernel)
set_option maxRecDepth 20000 in
theorem gX2_digitsOf_X3_has_n49 : GoodIn wsX2_digitsOf (wsX3_has) := ggX2_digitsOf_X3_has
set_option maxRecDepth 20000 in
theorem ggX2_digitsOf_X2_digitShift : GoodIn wsX2_digitsOf wsX2_digitShift := goodIn_r _ [7] (by decide +kernel) (by decide +kernel)
set_option maxRecDepth 20000 in
theorem gX2_digitsOf_X2_digitShift : GoodIn wsX2_digitsOf (va_wsS RX2 53 yX2_digitShift wsX2_digitShift) := goodIn_app (goodIn_of _ (by decide +kernel)) ggX2_digitsOf_X2_digitShift
theorem dX2_digitsOf_0 : decode cX2_digitsOf 0 = .ok (.lconst 0, 1) := by decide +kernel
theorem dX2_digitsOf_1 : decode cX2_digitsOf 1 = .ok (.lstore_n 2, 1) := by decide +kernel
theorem dX2_digitsOf_2 : decode cX2_digitsOf 2 = .ok (.iconst 0, 1) := by decide +kernel
theorem dX2_digitsOf_3 : decode cX2_digitsOf 3 = .ok (.istore 4, 2) := by decide +kernel
theorem dX2_digitsOf_5 : decode cX2_digitsOf 5 = .ok (.iload 4, 2) := by decide +kernel
theorem dX2_digitsOf_7 : decode cX2_digitsOf 7 = .ok (.iconst 5, 1) := by decide +kernel
theorem dX2_digitsOf_8 : decode cX2_digitsOf 8 = .ok (.if_icmp .ge 29, 3) := by decide +kernel
theorem dX2_digitsOf_11 : decode cX2_digitsOf 11 = .ok (.iload_n 0, 1) := by decide +kernel
theorem dX2_digitsOf_12 : decode cX2_digitsOf 12 = .ok (.iload 4, 2) := by decide +kernel
theorem dX2_digitsOf_14 : decode cX2_digitsOf 14 = .ok (.invokestatic 49, 3) := by decide +kernel
theorem dX2_digitsOf_17 : decode cX2_digitsOf 17 = .ok (.ifCond .eq 14, 3) := by decide +kernel
theorem dX2_digitsOf_20 : decode cX2_digitsOf 20 = .ok (.lload_n 2, 1) := by decide +kernel
theorem dX2_digitsOf_21 : decode cX2_digitsOf 21 = .ok (.iload_n 1, 1) := by decide +kernel
theorem dX2_digitsOf_22 : decode cX2_digitsOf 22 = .ok (.i2l, 1) := by decide +kernel
theorem dX2_digitsOf_23 : decode cX2_digitsOf 23 = .ok (.iload 4, 2) := by decide +kernel
theorem dX2_digitsOf_25 : decode cX2_digitsOf 25 = .ok (.invokestatic 53, 3) := by decide +kernel
theorem dX2_digitsOf_28 : decode cX2_digitsOf 28 = .ok (.lshl, 1) := by decide +kernel
theorem dX2_digitsOf_29 : decode cX2_digitsOf 29 = .ok (.ladd, 1) := by decide +kernel
theorem dX2_digitsOf_30 : decode cX2_digitsOf 30 = .ok (.lstore_n 2, 1) := by decide +kernel
theorem dX2_digitsOf_31 : decode cX2_digitsOf 31 = .ok (.iinc 4 1, 3) := by decide +kernel
theorem dX2_digitsOf_34 : decode cX2_digitsOf 34 = .ok (.goto (-29), 3) := by decide +kernel
theorem dX2_digitsOf_37 : decode cX2_digitsOf 37 = .ok (.lload_n 2, 1) := by decide +kernel
theorem dX2_digitsOf_38 : decode cX2_digitsOf 38 = .ok (.lreturn, 1) := by decide +kernel
set_option maxRecDepth 20000 in
theorem ggX2_findLeast_X2_digitsOf : GoodIn wsX2_findLeast wsX2_digitsOf := goodIn_r _ [7, 8, 9, 10, 11, 12, 6, 13] (by decide +kernel) (by decide +kernel)
set_option maxRecDepth 20000 in
theorem gX2_findLeast_X2_digitsOf : GoodIn wsX2_findLeast (va_wsS RX2 57 yX2_digitsOf wsX2_digitsOf) := goodIn_app (goodIn_of _ (by decide +kernel)) ggX2_findLeast_X2_digitsOf
set_option maxRecDepth 20000 in
theorem ggX2_findLeast_X2_fillPrices : GoodIn wsX2_findLeast wsX2_fillPrices := goodIn_r _ [17, 18, 19, 20, 21, 6, 22, 23, 24, 9, 25, 4, 5, 7, 8, 10, 11, 12, 13, 42, 43, 44, 45, 46, 47, 48] (by decide +kernel) (by decide +kernel)
set_option maxRecDepth 20000 in
theorem gX2_findLeast_X2_fillPrices : GoodIn wsX2_findLeast (wsV RX2 61 RX2 yX2_fillPrices wsX2_fillPrices) := goodIn_app (goodIn_of _ (by decide +kernel)) ggX2_findLeast_X2_fillPrices
set_option maxRecDepth 20000 in
theorem ggX2_findLeast_X3_at : GoodIn wsX2_findLeast wsX3_at := goodIn_r _ [25] (by decide +kernel) (by decide +kernel)
set_option maxRecDepth 20000 in
theorem gX2_findLeast_X3_at_n45 : GoodIn wsX2_findLeast (wsX3_at) := ggX2_findLeast_X3_at
set_option maxRecDepth 20000 in
theorem ggX2_findLeast_X2_leastOf : GoodIn wsX2_findLeast wsX2_leastOf := goodIn_r _ [29, 30, 31, 32, 33, 34, 35, 36, 6, 37, 18, 38, 39, 40, 41, 1, 42, 43, 44, 45, 46, 47, 48] (by decide +kernel) (by decide +kernel)
set_option maxRecDepth 20000 in
theorem gX2_findLeast_X2_leastOf : GoodIn wsX2_findLeast (wsV RX2 65 RX2 yX2_leastOf wsX2_leastOf) := goodIn_app (goodIn_of _ (by decide +kernel)) ggX2_findLeast_X2_leastOf
theorem dX2_findLeast_0 : decode cX2_findLeast 0 = .ok (.iconst 0, 1) := by decide +kernel
theorem dX2_findLeast_1 : decode cX2_findLeast 1 = .ok (.istore_n 1, 1) := by decide +kernel
theorem dX2_findLeast_2 : decode cX2_findLeast 2 = .ok (.iload_n 1, 1) := by decide +kernel
theorem dX2_findLeast_3 : decode cX2_findLeast 3 = .ok (.aload_n 0, 1) := by decide +kernel
theorem dX2_findLeast_4 : decode cX2_findLeast 4 = .ok (.getfield 25, 3) := by decide +kernel
theorem dX2_findLeast_7 : decode cX2_findLeast 7 = .ok (.arraylength, 1) := by decide +kernel
theorem dX2_findLeast_8 : decode cX2_findLeast 8 = .ok (.if_icmp .ge 21, 3) := by decide +kernel
theorem dX2_findLeast_11 : decode cX2_findLeast 11 = .ok (.aload_n 0, 1) := by decide +kernel
theorem dX2_findLeast_12 : decode cX2_findLeast 12 = .ok (.getfield 25, 3) := by decide +kernel
theorem dX2_findLeast_15 : decode cX2_findLeast 15 = .ok (.iload_n 1, 1) := by decide +kernel
theorem dX2_findLeast_16 : decode cX2_findLeast 16 = .ok (.iload_n 1, 1) := by decide +kernel
theorem dX2_findLeast_17 : decode cX2_findLeast 17 = .ok (.bipush 8, 2) := by decide +kernel
theorem dX2_findLeast_19 : decode cX2_findLeast 19 = .ok (.invokestatic 57, 3) := by decide +kernel
theorem dX2_findLeast_22 : decode cX2_findLeast 22 = .ok (.lastore, 1) := by decide +kernel
theorem dX2_findLeast_23 : decode cX2_findLeast 23 = .ok (.iinc 1 1, 3) := by decide +kernel
theorem dX2_findLeast_26 : decode cX2_findLeast 26 = .ok (.goto (-24), 3) := by decide +kernel
theorem dX2_findLeast_29 : decode cX2_findLeast 29 = .ok (.iconst 0, 1) := by decide +kernel
theorem dX2_findLeast_30 : decode cX2_findLeast 30 = .ok (.istore_n 1, 1) := by decide +kernel
theorem dX2_findLeast_31 : decode cX2_findLeast 31 = .ok (.iload_n 1, 1) := by decide +kernel
theorem dX2_findLeast_32 : decode cX2_findLeast 32 = .ok (.aload_n 0, 1) := by decide +kernel
theorem dX2_findLeast_33 : decode cX2_findLeast 33 = .ok (.getfield 34, 3) := by decide +kernel
theorem dX2_findLeast_36 : decode cX2_findLeast 36 = .ok (.if_icmp .ge 51, 3) := by decide +kernel
theorem dX2_findLeast_39 : decode cX2_findLeast 39 = .ok (.aload_n 0, 1) := by decide +kernel
theorem dX2_findLeast_40 : decode cX2_findLeast 40 = .ok (.iload_n 1, 1) := by decide +kernel
theorem dX2_findLeast_41 : decode cX2_findLeast 41 = .ok (.invokevirtual 61, 3) := by decide +kernel
theorem dX2_findLeast_44 : decode cX2_findLeast 44 = .ok (.aload_n 0, 1) := by decide +kernel
theorem dX2_findLeast_45 : decode cX2_findLeast 45 = .ok (.getfield 25, 3) := by decide +kernel
theorem dX2_findLeast_48 : decode cX2_findLeast 48 = .ok (.arraylength, 1) := by decide +kernel
theorem dX2_findLeast_49 : decode cX2_findLeast 49 = .ok (.iconst 1, 1) := by decide +kernel
theorem dX2_findLeast_50 : decode cX2_findLeast 50 = .ok (.isub, 1) := by decide +kernel
theorem dX2_findLeast_51 : decode cX2_findLeast 51 = .ok (.istore_n 2, 1) := by decide +kernel
theorem dX2_findLeast_52 : decode cX2_findLeast 52 = .ok (.iload_n 2, 1) := by decide +kernel
theorem dX2_findLeast_53 : decode cX2_findLeast 53 = .ok (.ifCond .lt 28, 3) := by decide +kernel
theorem dX2_findLeast_56 : decode cX2_findLeast 56 = .ok (.aload_n 0, 1) := by decide +kernel
theorem dX2_findLeast_57 : decode cX2_findLeast 57 = .ok (.getfield 25, 3) := by decide +kernel
theorem dX2_findLeast_60 : decode cX2_findLeast 60 = .ok (.iload_n 2, 1) := by decide +kernel
theorem dX2_findLeast_61 : decode cX2_findLeast 61 = .ok (.aload_n 0, 1) := by decide +kernel
theorem dX2_findLeast_62 : decode cX2_findLeast 62 = .ok (.iload_n 2, 1) := by decide +kernel
theorem dX2_findLeast_63 : decode cX2_findLeast 63 = .ok (.aload_n 0, 1) := by decide +kernel
theorem dX2_findLeast_64 : decode cX2_findLeast 64 = .ok (.getfield 11, 3) := by decide +kernel
theorem dX2_findLeast_67 : decode cX2_findLeast 67 = .ok (.iload_n 1, 1) := by decide +kernel
theorem dX2_findLeast_68 : decode cX2_findLeast 68 = .ok (.invokestatic 45, 3) := by decide +kernel
theorem dX2_findLeast_71 : decode cX2_findLeast 71 = .ok (.invokevirtual 65, 3) := by decide +kernel
theorem dX2_findLeast_74 : decode cX2_findLeast 74 = .ok (.lastore, 1) := by decide +kernel
theorem dX2_findLeast_75 : decode cX2_findLeast 75 = .ok (.iinc 2 (-1), 3) := by decide +kernel
theorem dX2_findLeast_78 : decode cX2_findLeast 78 = .ok (.goto (-26), 3) := by decide +kernel
theorem dX2_findLeast_81 : decode cX2_findLeast 81 = .ok (.iinc 1 1, 3) := by decide +kernel
theorem dX2_findLeast_84 : decode cX2_findLeast 84 = .ok (.goto (-53), 3) := by decide +kernel
theorem dX2_findLeast_87 : decode cX2_findLeast 87 = .ok (.return_, 1) := by decide +kernel
set_option maxRecDepth 20000 in
theorem ggX2_fillPrices_X2_weightedWith : GoodIn wsX2_fillPrices wsX2_weightedWith := goodIn_r _ [6, 7, 8, 9, 10, 19, 20, 21, 22, 23, 24, 25] (by decide +kernel) (by decide +kernel)
set_option maxRecDepth 20000 in
theorem gX2_fillPrices_X2_weightedWith : GoodIn wsX2_fillPrices (wsV RX2 68 RX2 yX2_weightedWith wsX2_weightedWith) := goodIn_app (goodIn_of _ (by decide +kernel)) ggX2_fillPrices_X2_weightedWith
set_option maxRecDepth 20000 in
theorem ggX2_fillPrices_X2_digitsOf : GoodIn wsX2_fillPrices wsX2_digitsOf := goodIn_r _ [13, 14, 9, 15, 16, 17, 5, 18] (by decide +kernel) (by decide +kernel)
set_option maxRecDepth 20000 in
theorem gX2_fillPrices_X2_digitsOf : GoodIn wsX2_fillPrices (va_wsS RX2 57 yX2_digitsOf wsX2_digitsOf) := goodIn_app (goodIn_of _ (by decide +kernel)) ggX2_fillPrices_X2_digitsOf
theorem dX2_fillPrices_0 : decode cX2_fillPrices 0 = .ok (.iconst 0, 1) := by decide +kernel
theorem dX2_fillPrices_1 : decode cX2_fillPrices 1 = .ok (.istore_n 2, 1) := by decide +kernel
theorem dX2_fillPrices_2 : decode cX2_fillPrices 2 = .ok (.iload_n 2, 1) := by decide +kernel
theorem dX2_fillPrices_3 : decode cX2_fillPrices 3 = .ok (.aload_n 0, 1) := by decide +kernel
theorem dX2_fillPrices_4 : decode cX2_fillPrices 4 = .ok (.getfield 21, 3) := by decide +kernel
theorem dX2_fillPrices_7 : decode cX2_fillPrices 7 = .ok (.arraylength, 1) := by decide +kernel
theorem dX2_fillPrices_8 : decode cX2_fillPrices 8 = .ok (.if_icmp .ge 31, 3) := by decide +kernel
theorem dX2_fillPrices_11 : decode cX2_fillPrices 11 = .ok (.aload_n 0, 1) := by decide +kernel
theorem dX2_fillPrices_12 : decode cX2_fillPrices 12 = .ok (.getfield 21, 3) := by decide +kernel
theorem dX2_fillPrices_15 : decode cX2_fillPrices 15 = .ok (.iload_n 2, 1) := by decide +kernel
theorem dX2_fillPrices_16 : decode cX2_fillPrices 16 = .ok (.aload_n 0, 1) := by decide +kernel
theorem dX2_fillPrices_17 : decode cX2_fillPrices 17 = .ok (.iload_n 1, 1) := by decide +kernel
theorem dX2_fillPrices_18 : decode cX2_fillPrices 18 = .ok (.iload_n 2, 1) := by decide +kernel
theorem dX2_fillPrices_19 : decode cX2_fillPrices 19 = .ok (.invokevirtual 68, 3) := by decide +kernel
theorem dX2_fillPrices_22 : decode cX2_fillPrices 22 = .ok (.i2l, 1) := by decide +kernel
theorem dX2_fillPrices_23 : decode cX2_fillPrices 23 = .ok (.bipush 20, 2) := by decide +kernel
theorem dX2_fillPrices_25 : decode cX2_fillPrices 25 = .ok (.lshl, 1) := by decide +kernel
theorem dX2_fillPrices_26 : decode cX2_fillPrices 26 = .ok (.iload_n 2, 1) := by decide +kernel
theorem dX2_fillPrices_27 : decode cX2_fillPrices 27 = .ok (.iload_n 1, 1) := by decide +kernel
theorem dX2_fillPrices_28 : decode cX2_fillPrices 28 = .ok (.invokestatic 57, 3) := by decide +kernel
theorem dX2_fillPrices_31 : decode cX2_fillPrices 31 = .ok (.ladd, 1) := by decide +kernel
theorem dX2_fillPrices_32 : decode cX2_fillPrices 32 = .ok (.lastore, 1) := by decide +kernel
theorem dX2_fillPrices_33 : decode cX2_fillPrices 33 = .ok (.iinc 2 1, 3) := by decide +kernel
theorem dX2_fillPrices_36 : decode cX2_fillPrices 36 = .ok (.goto (-34), 3) := by decide +kernel
theorem dX2_fillPrices_39 : decode cX2_fillPrices 39 = .ok (.return_, 1) := by decide +kernel
set_option maxRecDepth 20000 in
theorem ggX2_leastOf_X2_priceOf : GoodIn wsX2_leastOf wsX2_priceOf := goodIn_r _ [9, 10, 16, 17, 18, 19, 20, 21, 22] (by decide +kernel) (by decide +kernel)
set_option maxRecDepth 20000 in
theorem gX2_leastOf_X2_priceOf : GoodIn wsX2_leastOf (wsV RX2 71 RX2 yX2_priceOf wsX2_priceOf) := goodIn_app (goodIn_of _ (by decide +kernel)) ggX2_leastOf_X2_priceOf
set_option maxRecDepth 20000 in
theorem ggX2_leastOf_X2_leastKey : GoodIn wsX2_leastOf wsX2_leastKey := goodIn_r _ [14, 15, 16, 17, 18, 19, 20, 21, 22] (by decide +kernel) (by decide +kernel)
set_option maxRecDepth 20000 in
theorem gX2_leastOf_X2_leastKey : GoodIn wsX2_leastOf (wsV RX2 75 RX2 yX2_leastKey wsX2_leastKey) := goodIn_app (goodIn_of _ (by decide +kernel)) ggX2_leastOf_X2_leastKey
theorem dX2_leastOf_0 : decode cX2_leastOf 0 = .ok (.aload_n 0, 1) := by decide +kernel
theorem dX2_leastOf_1 : decode cX2_leastOf 1 = .ok (.iconst 0, 1) := by decide +kernel
theorem dX2_leastOf_2 : decode cX2_leastOf 2 = .ok (.invokevirtual 71, 3) := by decide +kernel
theorem dX2_leastOf_5 : decode cX2_leastOf 5 = .ok (.aload_n 0, 1) := by decide +kernel
theorem dX2_leastOf_6 : decode cX2_leastOf 6 = .ok (.iload_n 1, 1) := by decide +kernel
theorem dX2_leastOf_7 : decode cX2_leastOf 7 = .ok (.invokevirtual 75, 3) := by decide +kernel
theorem dX2_leastOf_10 : decode cX2_leastOf 10 = .ok (.ladd, 1) := by decide +kernel
theorem dX2_leastOf_11 : decode cX2_leastOf 11 = .ok (.lstore_n 3, 1) := by decide +kernel
theorem dX2_leastOf_12 : decode cX2_leastOf 12 = .ok (.iconst 1, 1) := by decide +kernel
theorem dX2_leastOf_13 : decode cX2_leastOf 13 = .ok (.istore 5, 2) := by decide +kernel
theorem dX2_leastOf_15 : decode cX2_leastOf 15 = .ok (.iload 5, 2) := by decide +kernel
theorem dX2_leastOf_17 : decode cX2_leastOf 17 = .ok (.iload_n 1, 1) := by decide +kernel
theorem dX2_leastOf_18 : decode cX2_leastOf 18 = .ok (.if_icmp .gt 40, 3) := by decide +kernel
theorem dX2_leastOf_21 : decode cX2_leastOf 21 = .ok (.iload 5, 2) := by decide +kernel
theorem dX2_leastOf_23 : decode cX2_leastOf 23 = .ok (.iload_n 1, 1) := by decide +kernel
theorem dX2_leastOf_24 : decode cX2_leastOf 24 = .ok (.iand, 1) := by decide +kernel
theorem dX2_leastOf_25 : decode cX2_leastOf 25 = .ok (.iload_n 2, 1) := by decide +kernel
theorem dX2_leastOf_26 : decode cX2_leastOf 26 = .ok (.iand, 1) := by decide +kernel
theorem dX2_leastOf_27 : decode cX2_leastOf 27 = .ok (.iload 5, 2) := by decide +kernel
theorem dX2_leastOf_29 : decode cX2_leastOf 29 = .ok (.if_icmp .ne 23, 3) := by decide +kernel
theorem dX2_leastOf_32 : decode cX2_leastOf 32 = .ok (.lload_n 3, 1) := by decide +kernel
theorem dX2_leastOf_33 : decode cX2_leastOf 33 = .ok (.aload_n 0, 1) := by decide +kernel
theorem dX2_leastOf_34 : decode cX2_leastOf 34 = .ok (.iload 5, 2) := by decide +kernel
theorem dX2_leastOf_36 : decode cX2_leastOf 36 = .ok (.invokevirtual 71, 3) := by decide +kernel
theorem dX2_leastOf_39 : decode cX2_leastOf 39 = .ok (.aload_n 0, 1) := by decide +kernel
theorem dX2_leastOf_40 : decode cX2_leastOf 40 = .ok (.iload_n 1, 1) := by decide +kernel
theorem dX2_leastOf_41 : decode cX2_leastOf 41 = .ok (.iload 5, 2) := by decide +kernel
theorem dX2_leastOf_43 : decode cX2_leastOf 43 = .ok (.isub, 1) := by decide +kernel
theorem dX2_leastOf_44 : decode cX2_leastOf 44 = .ok (.invokevirtual 75, 3) := by decide +kernel
theorem dX2_leastOf_47 : decode cX2_leastOf 47 = .ok (.ladd, 1) := by decide +kernel
theorem dX2_leastOf_48 : decode cX2_leastOf 48 = .ok (.invokestatic 78, 3) := by decide +kernel
theorem dX2_leastOf_51 : decode cX2_leastOf 51 = .ok (.lstore_n 3, 1) := by decide +kernel
theorem dX2_leastOf_52 : decode cX2_leastOf 52 = .ok (.iinc 5 1, 3) := by decide +kernel
theorem dX2_leastOf_55 : decode cX2_leastOf 55 = .ok (.goto (-40), 3) := by decide +kernel
theorem dX2_leastOf_58 : decode cX2_leastOf 58 = .ok (.lload_n 3, 1) := by decide +kernel
theorem dX2_leastOf_59 : decode cX2_leastOf 59 = .ok (.lreturn, 1) := by decide +kernel
theorem dX2_priceOf_0 : decode cX2_priceOf 0 = .ok (.iconst 0, 1) := by decide +kernel
theorem dX2_priceOf_1 : decode cX2_priceOf 1 = .ok (.iload_n 1, 1) := by decide +kernel
theorem dX2_priceOf_2 : decode cX2_priceOf 2 = .ok (.if_icmp .gt 21, 3) := by decide +kernel
theorem dX2_priceOf_5 : decode cX2_priceOf 5 = .ok (.iload_n 1, 1) := by decide +kernel
theorem dX2_priceOf_6 : decode cX2_priceOf 6 = .ok (.aload_n 0, 1) := by decide +kernel
theorem dX2_priceOf_7 : decode cX2_priceOf 7 = .ok (.getfield 21, 3) := by decide +kernel
theorem dX2_priceOf_10 : decode cX2_priceOf 10 = .ok (.arraylength, 1) := by decide +kernel
theorem dX2_priceOf_11 : decode cX2_priceOf 11 = .ok (.if_icmp .ge 12, 3) := by decide +kernel
theorem dX2_priceOf_14 : decode cX2_priceOf 14 = .ok (.aload_n 0, 1) := by decide +kernel
theorem dX2_priceOf_15 : decode cX2_priceOf 15 = .ok (.getfield 21, 3) := by decide +kernel
theorem dX2_priceOf_18 : decode cX2_priceOf 18 = .ok (.iload_n 1, 1) := by decide +kernel
theorem dX2_priceOf_19 : decode cX2_priceOf 19 = .ok (.laload, 1) := by decide +kernel
theorem dX2_priceOf_20 : decode cX2_priceOf 20 = .ok (.goto 4, 3) := by decide +kernel
theorem dX2_priceOf_23 : decode cX2_priceOf 23 = .ok (.lconst 0, 1) := by decide +kernel
theorem dX2_priceOf_24 : decode cX2_priceOf 24 = .ok (.lreturn, 1) := by decide +kernel
theorem dX2_leastKey_0 : decode cX2_leastKey 0 = .ok (.iconst 0, 1) := by decide +kernel
theorem dX2_leastKey_1 : decode cX2_leastKey 1 = .ok (.iload_n 1, 1) := by decide +kernel
theorem dX2_leastKey_2 : decode cX2_leastKey 2 = .ok (.if_icmp .gt 21, 3) := by decide +kernel
theorem dX2_leastKey_5 : decode cX2_leastKey 5 = .ok (.iload_n 1, 1) := by decide +kernel
theorem dX2_leastKey_6 : decode cX2_leastKey 6 = .ok (.aload_n 0, 1) := by decide +kernel
theorem dX2_leastKey_7 : decode cX2_leastKey 7 = .ok (.getfield 25, 3) := by decide +kernel
theorem dX2_leastKey_10 : decode cX2_leastKey 10 = .ok (.arraylength, 1) := by decide +kernel
theorem dX2_leastKey_11 : decode cX2_leastKey 11 = .ok (.if_icmp .ge 12, 3) := by decide +kernel
theorem dX2_leastKey_14 : decode cX2_leastKey 14 = .ok (.aload_n 0, 1) := by decide +kernel
theorem dX2_leastKey_15 : decode cX2_leastKey 15 = .ok (.getfield 25, 3) := by decide +kernel
theorem dX2_leastKey_18 : decode cX2_leastKey 18 = .ok (.iload_n 1, 1) := by decide +kernel
theorem dX2_leastKey_19 : decode cX2_leastKey 19 = .ok (.laload, 1) := by decide +kernel
theorem dX2_leastKey_20 : decode cX2_leastKey 20 = .ok (.goto 4, 3) := by decide +kernel
theorem dX2_leastKey_23 : decode cX2_leastKey 23 = .ok (.lconst 0, 1) := by decide +kernel
theorem dX2_leastKey_24 : decode cX2_leastKey 24 = .ok (.lreturn, 1) := by decide +kernel
theorem dX2_allGifts_0 : decode cX2_allGifts 0 = .ok (.iconst 1, 1) := by decide +kernel
theorem dX2_allGifts_1 : decode cX2_allGifts 1 = .ok (.aload_n 0, 1) := by decide +kernel
theorem dX2_allGifts_2 : decode cX2_allGifts 2 = .ok (.getfield 38, 3) := by decide +kernel
theorem dX2_allGifts_5 : decode cX2_allGifts 5 = .ok (.ishl, 1) := by decide +kernel
theorem dX2_allGifts_6 : decode cX2_allGifts 6 = .ok (.iconst 1, 1) := by decide +kernel
theorem dX2_allGifts_7 : decode cX2_allGifts 7 = .ok (.isub, 1) := by decide +kernel
theorem dX2_allGifts_8 : decode cX2_allGifts 8 = .ok (.ireturn, 1) := by decide +kernel
set_option maxRecDepth 20000 in
theorem ggX2_bestKey_X2_allGifts : GoodIn wsX2_bestKey wsX2_allGifts := goodIn_r _ [5, 6, 12, 13, 14, 15, 16, 17, 18] (by decide +kernel) (by decide +kernel)
set_option maxRecDepth 20000 in
theorem gX2_bestKey_X2_allGifts : GoodIn wsX2_bestKey (wsV RX2 81 RX2 yX2_allGifts wsX2_allGifts) := goodIn_app (goodIn_of _ (by decide +kernel)) ggX2_bestKey_X2_allGifts
set_option maxRecDepth 20000 in
theorem ggX2_bestKey_X2_leastKey : GoodIn wsX2_bestKey wsX2_leastKey := goodIn_r _ [10, 11, 12, 13, 14, 15, 16, 17, 18] (by decide +kernel) (by decide +kernel)
set_option maxRecDepth 20000 in
theorem gX2_bestKey_X2_leastKey : GoodIn wsX2_bestKey (wsV RX2 75 RX2 yX2_leastKey wsX2_leastKey) := goodIn_app (goodIn_of _ (by decide +kernel)) ggX2_bestKey_X2_leastKey
theorem dX2_bestKey_0 : decode cX2_bestKey 0 = .ok (.aload_n 0, 1) := by decide +kernel
theorem dX2_bestKey_1 : decode cX2_bestKey 1 = .ok (.aload_n 0, 1) := by decide +kernel
theorem dX2_bestKey_2 : decode cX2_bestKey 2 = .ok (.invokevirtual 81, 3) := by decide +kernel
theorem dX2_bestKey_5 : decode cX2_bestKey 5 = .ok (.invokevirtual 75, 3) := by decide +kernel
theorem dX2_bestKey_8 : decode cX2_bestKey 8 = .ok (.lreturn, 1) := by decide +kernel
set_option maxRecDepth 20000 in
theorem ggX2_bestWhole_X2_bestKey : GoodIn wsX2_bestWhole wsX2_bestKey := goodIn_r _ [5, 6, 7, 8, 4, 9, 10, 11, 12, 13, 14, 15, 16, 17, 18, 19, 20, 21, 22] (by decide +kernel) (by decide +kernel)
set_option maxRecDepth 20000 in
theorem gX2_bestWhole_X2_bestKey : GoodIn wsX2_bestWhole (wsV RX2 85 RX2 yX2_bestKey wsX2_bestKey) := goodIn_app (goodIn_of _ (by decide +kernel)) ggX2_bestWhole_X2_bestKey
theorem dX2_bestWhole_0 : decode cX2_bestWhole 0 = .ok (.aload_n 0, 1) := by decide +kernel
theorem dX2_bestWhole_1 : decode cX2_bestWhole 1 = .ok (.invokevirtual 85, 3) := by decide +kernel
theorem dX2_bestWhole_4 : decode cX2_bestWhole 4 = .ok (.bipush 20, 2) := by decide +kernel
theorem dX2_bestWhole_6 : decode cX2_bestWhole 6 = .ok (.lshr, 1) := by decide +kernel
theorem dX2_bestWhole_7 : decode cX2_bestWhole 7 = .ok (.l2i, 1) := by decide +kernel
theorem dX2_bestWhole_8 : decode cX2_bestWhole 8 = .ok (.ireturn, 1) := by decide +kernel
set_option maxRecDepth 20000 in
theorem ggX2_wholeWithout_X2_allGifts : GoodIn wsX2_wholeWithout wsX2_allGifts := goodIn_r _ [5, 6, 12, 13, 14, 15, 16, 17, 18] (by decide +kernel) (by decide +kernel)
set_option maxRecDepth 20000 in
theorem gX2_wholeWithout_X2_allGifts : GoodIn wsX2_wholeWithout (wsV RX2 81 RX2 yX2_allGifts wsX2_allGifts) := goodIn_app (goodIn_of _ (by decide +kernel)) ggX2_wholeWithout_X2_allGifts
set_option maxRecDepth 20000 in
theorem ggX2_wholeWithout_X2_leastKey : GoodIn wsX2_wholeWithout wsX2_leastKey := goodIn_r _ [10, 11, 12, 13, 14, 15, 16, 17, 18] (by decide +kernel) (by decide +kernel)
set_option maxRecDepth 20000 in
theorem gX2_wholeWithout_X2_leastKey : GoodIn wsX2_wholeWithout (wsV RX2 75 RX2 yX2_leastKey wsX2_leastKey) := goodIn_app (goodIn_of _ (by decide +kernel)) ggX2_wholeWithout_X2_leastKey
theorem dX2_wholeWithout_0 : decode cX2_wholeWithout 0 = .ok (.aload_n 0, 1) := by decide +kernel
theorem dX2_wholeWithout_1 : decode cX2_wholeWithout 1 = .ok (.aload_n 0, 1) := by decide +kernel
theorem dX2_wholeWithout_2 : decode cX2_wholeWithout 2 = .ok (.invokevirtual 81, 3) := by decide +kernel
theorem dX2_wholeWithout_5 : decode cX2_wholeWithout 5 = .ok (.iconst 1, 1) := by decide +kernel
theorem dX2_wholeWithout_6 : decode cX2_wholeWithout 6 = .ok (.iload_n 1, 1) := by decide +kernel
theorem dX2_wholeWithout_7 : decode cX2_wholeWithout 7 = .ok (.ishl, 1) := by decide +kernel
theorem dX2_wholeWithout_8 : decode cX2_wholeWithout 8 = .ok (.iconst (-1), 1) := by decide +kernel
theorem dX2_wholeWithout_9 : decode cX2_wholeWithout 9 = .ok (.ixor, 1) := by decide +kernel
theorem dX2_wholeWithout_10 : decode cX2_wholeWithout 10 = .ok (.iand, 1) := by decide +kernel
theorem dX2_wholeWithout_11 : decode cX2_wholeWithout 11 = .ok (.invokevirtual 75, 3) := by decide +kernel
theorem dX2_wholeWithout_14 : decode cX2_wholeWithout 14 = .ok (.bipush 20, 2) := by decide +kernel
theorem dX2_wholeWithout_16 : decode cX2_wholeWithout 16 = .ok (.lshr, 1) := by decide +kernel
theorem dX2_wholeWithout_17 : decode cX2_wholeWithout 17 = .ok (.l2i, 1) := by decide +kernel
theorem dX2_wholeWithout_18 : decode cX2_wholeWithout 18 = .ok (.ireturn, 1) := by decide +kernel
set_option maxRecDepth 20000 in
theorem ggX2_takerOf_X2_bestKey : GoodIn wsX2_takerOf wsX2_bestKey := goodIn_r _ [5, 6, 7, 8, 4, 9, 10, 11, 12, 13, 14, 15, 19, 20, 21, 22, 23, 24, 25] (by decide +kernel) (by decide +kernel)
set_option maxRecDepth 20000 in
theorem gX2_takerOf_X2_bestKey : GoodIn wsX2_takerOf (wsV RX2 85 RX2 yX2_bestKey wsX2_bestKey) := goodIn_app (goodIn_of _ (by decide +kernel)) ggX2_takerOf_X2_bestKey
set_option maxRecDepth 20000 in
theorem ggX2_takerOf_X2_digitShift : GoodIn wsX2_takerOf wsX2_digitShift := goodIn_r _ [18] (by decide +kernel) (by decide +kernel)
set_option maxRecDepth 20000 in
theorem gX2_takerOf_X2_digitShift : GoodIn wsX2_takerOf (va_wsS RX2 53 yX2_digitShift wsX2_digitShift) := goodIn_app (goodIn_of _ (by decide +kernel)) ggX2_takerOf_X2_digitShift
theorem dX2_takerOf_0 : decode cX2_takerOf 0 = .ok (.aload_n 0, 1) := by decide +kernel
theorem dX2_takerOf_1 : decode cX2_takerOf 1 = .ok (.invokevirtual 85, 3) := by decide +kernel
theorem dX2_takerOf_4 : decode cX2_takerOf 4 = .ok (.iload_n 1, 1) := by decide +kernel
theorem dX2_takerOf_5 : decode cX2_takerOf 5 = .ok (.invokestatic 53, 3) := by decide +kernel
theorem dX2_takerOf_8 : decode cX2_takerOf 8 = .ok (.lshr, 1) := by decide +kernel
theorem dX2_takerOf_9 : decode cX2_takerOf 9 = .ok (.l2i, 1) := by decide +kernel
theorem dX2_takerOf_10 : decode cX2_takerOf 10 = .ok (.bipush 15, 2) := by decide +kernel
theorem dX2_takerOf_12 : decode cX2_takerOf 12 = .ok (.iand, 1) := by decide +kernel
theorem dX2_takerOf_13 : decode cX2_takerOf 13 = .ok (.istore_n 2, 1) := by decide +kernel
theorem dX2_takerOf_14 : decode cX2_takerOf 14 = .ok (.iload_n 2, 1) := by decide +kernel
theorem dX2_takerOf_15 : decode cX2_takerOf 15 = .ok (.bipush 8, 2) := by decide +kernel
theorem dX2_takerOf_17 : decode cX2_takerOf 17 = .ok (.if_icmp .ne 7, 3) := by decide +kernel
theorem dX2_takerOf_20 : decode cX2_takerOf 20 = .ok (.iconst (-1), 1) := by decide +kernel
theorem dX2_takerOf_21 : decode cX2_takerOf 21 = .ok (.goto 4, 3) := by decide +kernel
theorem dX2_takerOf_24 : decode cX2_takerOf 24 = .ok (.iload_n 2, 1) := by decide +kernel
theorem dX2_takerOf_25 : decode cX2_takerOf 25 = .ok (.ireturn, 1) := by decide +kernel
set_option maxRecDepth 20000 in
theorem ggX2_givenSet_X2_takerOf : GoodIn wsX2_givenSet wsX2_takerOf := goodIn_r _ [6, 7, 8, 9, 5, 10, 11, 12, 13, 14, 1, 15, 16, 17, 18, 19, 20, 21, 22, 23, 24, 25, 26, 27, 28, 29] (by decide +kernel) (by decide +kernel)
set_option maxRecDepth 20000 in
theorem gX2_givenSet_X2_takerOf : GoodIn wsX2_givenSet (wsV RX2 89 RX2 yX2_takerOf wsX2_takerOf) := goodIn_app (goodIn_of _ (by decide +kernel)) ggX2_givenSet_X2_takerOf
theorem dX2_givenSet_0 : decode cX2_givenSet 0 = .ok (.iconst 0, 1) := by decide +kernel
theorem dX2_givenSet_1 : decode cX2_givenSet 1 = .ok (.istore_n 2, 1) := by decide +kernel
theorem dX2_givenSet_2 : decode cX2_givenSet 2 = .ok (.iconst 0, 1) := by decide +kernel
theorem dX2_givenSet_3 : decode cX2_givenSet 3 = .ok (.istore_n 3, 1) := by decide +kernel
theorem dX2_givenSet_4 : decode cX2_givenSet 4 = .ok (.iload_n 3, 1) := by decide +kernel
theorem dX2_givenSet_5 : decode cX2_givenSet 5 = .ok (.aload_n 0, 1) := by decide +kernel
theorem dX2_givenSet_6 : decode cX2_givenSet 6 = .ok (.getfield 38, 3) := by decide +kernel
theorem dX2_givenSet_9 : decode cX2_givenSet 9 = .ok (.if_icmp .ge 24, 3) := by decide +kernel
theorem dX2_givenSet_12 : decode cX2_givenSet 12 = .ok (.aload_n 0, 1) := by decide +kernel
theorem dX2_givenSet_13 : decode cX2_givenSet 13 = .ok (.iload_n 3, 1) := by decide +kernel
theorem dX2_givenSet_14 : decode cX2_givenSet 14 = .ok (.invokevirtual 89, 3) := by decide +kernel
theorem dX2_givenSet_17 : decode cX2_givenSet 17 = .ok (.iload_n 1, 1) := by decide +kernel
theorem dX2_givenSet_18 : decode cX2_givenSet 18 = .ok (.if_icmp .ne 9, 3) := by decide +kernel
theorem dX2_givenSet_21 : decode cX2_givenSet 21 = .ok (.iload_n 2, 1) := by decide +kernel
theorem dX2_givenSet_22 : decode cX2_givenSet 22 = .ok (.iconst 1, 1) := by decide +kernel
theorem dX2_givenSet_23 : decode cX2_givenSet 23 = .ok (.iload_n 3, 1) := by decide +kernel
theorem dX2_givenSet_24 : decode cX2_givenSet 24 = .ok (.ishl, 1) := by decide +kernel
theorem dX2_givenSet_25 : decode cX2_givenSet 25 = .ok (.ior, 1) := by decide +kernel
theorem dX2_givenSet_26 : decode cX2_givenSet 26 = .ok (.istore_n 2, 1) := by decide +kernel
theorem dX2_givenSet_27 : decode cX2_givenSet 27 = .ok (.iinc 3 1, 3) := by decide +kernel
theorem dX2_givenSet_30 : decode cX2_givenSet 30 = .ok (.goto (-26), 3) := by decide +kernel
theorem dX2_givenSet_33 : decode cX2_givenSet 33 = .ok (.iload_n 2, 1) := by decide +kernel
theorem dX2_givenSet_34 : decode cX2_givenSet 34 = .ok (.ireturn, 1) := by decide +kernel
set_option maxRecDepth 20000 in
theorem ggX2_triedWhole_X3_put : GoodIn wsX2_triedWhole wsX3_put := goodIn_r _ [5] (by decide +kernel) (by decide +kernel)
set_option maxRecDepth 20000 in
theorem gX2_triedWhole_X3_put_n41 : GoodIn wsX2_triedWhole (wsX3_put) := ggX2_triedWhole_X3_put
set_option maxRecDepth 20000 in
theorem ggX2_triedWhole_X2_weightedWith : GoodIn wsX2_triedWhole wsX2_weightedWith := goodIn_r _ [10, 11, 12, 4, 13, 25, 26, 27, 28, 29, 30, 31] (by decide +kernel) (by decide +kernel)
set_option maxRecDepth 20000 in
theorem gX2_triedWhole_X2_weightedWith : GoodIn wsX2_triedWhole (wsV RX2 68 RX2 yX2_weightedWith wsX2_weightedWith) := goodIn_app (goodIn_of _ (by decide +kernel)) ggX2_triedWhole_X2_weightedWith
set_option maxRecDepth 20000 in
theorem ggX2_triedWhole_X2_tryFrom : GoodIn wsX2_triedWhole wsX2_tryFrom := goodIn_r _ [16, 17, 1, 18, 2, 19, 20, 21, 22, 14, 15, 9, 12, 4, 13, 23, 24, 6, 7, 8, 10, 11, 3, 5, 25, 26, 27, 28, 29, 30, 31] (by decide +kernel) (by decide +kernel)
set_option maxRecDepth 20000 in
theorem gX2_triedWhole_X2_tryFrom : GoodIn wsX2_triedWhole (va_wsS RX2 92 yX2_tryFrom wsX2_tryFrom) := goodIn_app (goodIn_of _ (by decide +kernel)) ggX2_triedWhole_X2_tryFrom
theorem dX2_triedWhole_0 : decode cX2_triedWhole 0 = .ok (.iconst 0, 1) := by decide +kernel
theorem dX2_triedWhole_1 : decode cX2_triedWhole 1 = .ok (.istore_n 1, 1) := by decide +kernel
theorem dX2_triedWhole_2 : decode cX2_triedWhole 2 = .ok (.iconst 0, 1) := by decide +kernel
theorem dX2_triedWhole_3 : decode cX2_triedWhole 3 = .ok (.istore_n 2, 1) := by decide +kernel
theorem dX2_triedWhole_4 : decode cX2_triedWhole 4 = .ok (.iload_n 2, 1) := by decide +kernel
theorem dX2_triedWhole_5 : decode cX2_triedWhole 5 = .ok (.aload_n 0, 1) := by decide +kernel
theorem dX2_triedWhole_6 : decode cX2_triedWhole 6 = .ok (.getfield 34, 3) := by decide +kernel
theorem dX2_triedWhole_9 : decode cX2_triedWhole 9 = .ok (.if_icmp .ge 27, 3) := by decide +kernel
theorem dX2_triedWhole_12 : decode cX2_triedWhole 12 = .ok (.aload_n 0, 1) := by decide +kernel
theorem dX2_triedWhole_13 : decode cX2_triedWhole 13 = .ok (.getfield 18, 3) := by decide +kernel
theorem dX2_triedWhole_16 : decode cX2_triedWhole 16 = .ok (.iload_n 2, 1) := by decide +kernel
theorem dX2_triedWhole_17 : decode cX2_triedWhole 17 = .ok (.iconst 0, 1) := by decide +kernel
theorem dX2_triedWhole_18 : decode cX2_triedWhole 18 = .ok (.invokestatic 41, 3) := by decide +kernel
theorem dX2_triedWhole_21 : decode cX2_triedWhole 21 = .ok (.iload_n 1, 1) := by decide +kernel
theorem dX2_triedWhole_22 : decode cX2_triedWhole 22 = .ok (.aload_n 0, 1) := by decide +kernel
theorem dX2_triedWhole_23 : decode cX2_triedWhole 23 = .ok (.iload_n 2, 1) := by decide +kernel
theorem dX2_triedWhole_24 : decode cX2_triedWhole 24 = .ok (.iconst 0, 1) := by decide +kernel
theorem dX2_triedWhole_25 : decode cX2_triedWhole 25 = .ok (.invokevirtual 68, 3) := by decide +kernel
theorem dX2_triedWhole_28 : decode cX2_triedWhole 28 = .ok (.iadd, 1) := by decide +kernel
theorem dX2_triedWhole_29 : decode cX2_triedWhole 29 = .ok (.istore_n 1, 1) := by decide +kernel
theorem dX2_triedWhole_30 : decode cX2_triedWhole 30 = .ok (.iinc 2 1, 3) := by decide +kernel
theorem dX2_triedWhole_33 : decode cX2_triedWhole 33 = .ok (.goto (-29), 3) := by decide +kernel
theorem dX2_triedWhole_36 : decode cX2_triedWhole 36 = .ok (.aload_n 0, 1) := by decide +kernel
theorem dX2_triedWhole_37 : decode cX2_triedWhole 37 = .ok (.iconst 0, 1) := by decide +kernel
theorem dX2_triedWhole_38 : decode cX2_triedWhole 38 = .ok (.iload_n 1, 1) := by decide +kernel
theorem dX2_triedWhole_39 : decode cX2_triedWhole 39 = .ok (.invokestatic 92, 3) := by decide +kernel
theorem dX2_triedWhole_42 : decode cX2_triedWhole 42 = .ok (.ireturn, 1) := by decide +kernel
set_option maxRecDepth 20000 in
theorem ggX2_tryFrom_X2_tryFrom : GoodIn wsX2_tryFrom wsX2_tryFrom := goodIn_r _ [0, 1, 2, 3, 4, 5, 6, 7, 8, 9, 10, 11, 12, 13, 14, 15, 16, 17, 18, 19, 20, 21, 22, 23, 24, 25, 26, 27, 28, 29, 30] (by decide +kernel) (by decide +kernel)
set_option maxRecDepth 20000 in
theorem gX2_tryFrom_X2_tryFrom : GoodIn wsX2_tryFrom (va_wsS RX2 92 yX2_tryFrom wsX2_tryFrom) := goodIn_app (goodIn_of _ (by decide +kernel)) ggX2_tryFrom_X2_tryFrom
set_option maxRecDepth 20000 in
theorem ggX2_tryFrom_X3_at : GoodIn wsX2_tryFrom wsX3_at := goodIn_r _ [14] (by decide +kernel) (by decide +kernel)
set_option maxRecDepth 20000 in
theorem gX2_tryFrom_X3_at_n45 : GoodIn wsX2_tryFrom (wsX3_at) := ggX2_tryFrom_X3_at
set_option maxRecDepth 20000 in
theorem ggX2_tryFrom_X3_has : GoodIn wsX2_tryFrom wsX3_has := goodIn_r _ [16] (by decide +kernel) (by decide +kernel)
set_option maxRecDepth 20000 in
theorem gX2_tryFrom_X3_has_n49 : GoodIn wsX2_tryFrom (wsX3_has) := ggX2_tryFrom_X3_has
set_option maxRecDepth 20000 in
theorem ggX2_tryFrom_X2_weightedWith : GoodIn wsX2_tryFrom wsX2_weightedWith := goodIn_r _ [20, 21, 12, 13, 14, 24, 25, 26, 27, 28, 29, 30] (by decide +kernel) (by decide +kernel)
set_option maxRecDepth 20000 in
theorem gX2_tryFrom_X2_weightedWith : GoodIn wsX2_tryFrom (wsV RX2 68 RX2 yX2_weightedWith wsX2_weightedWith) := goodIn_app (goodIn_of _ (by decide +kernel)) ggX2_tryFrom_X2_weightedWith
set_option maxRecDepth 20000 in
theorem ggX2_tryFrom_X3_put : GoodIn wsX2_tryFrom wsX3_put := goodIn_r _ [23] (by decide +kernel) (by decide +kernel)
set_option maxRecDepth 20000 in
theorem gX2_tryFrom_X3_put_n41 : GoodIn wsX2_tryFrom (wsX3_put) := ggX2_tryFrom_X3_put
theorem dX2_tryFrom_0 : decode cX2_tryFrom 0 = .ok (.iload_n 1, 1) := by decide +kernel
theorem dX2_tryFrom_1 : decode cX2_tryFrom 1 = .ok (.ifCond .lt 11, 3) := by decide +kernel
theorem dX2_tryFrom_4 : decode cX2_tryFrom 4 = .ok (.iload_n 1, 1) := by decide +kernel
theorem dX2_tryFrom_5 : decode cX2_tryFrom 5 = .ok (.aload_n 0, 1) := by decide +kernel
theorem dX2_tryFrom_6 : decode cX2_tryFrom 6 = .ok (.getfield 38, 3) := by decide +kernel
theorem dX2_tryFrom_9 : decode cX2_tryFrom 9 = .ok (.if_icmp .lt 5, 3) := by decide +kernel
theorem dX2_tryFrom_12 : decode cX2_tryFrom 12 = .ok (.iload_n 2, 1) := by decide +kernel
theorem dX2_tryFrom_13 : decode cX2_tryFrom 13 = .ok (.ireturn, 1) := by decide +kernel
theorem dX2_tryFrom_14 : decode cX2_tryFrom 14 = .ok (.aload_n 0, 1) := by decide +kernel
theorem dX2_tryFrom_15 : decode cX2_tryFrom 15 = .ok (.iload_n 1, 1) := by decide +kernel
theorem dX2_tryFrom_16 : decode cX2_tryFrom 16 = .ok (.iconst 1, 1) := by decide +kernel
theorem dX2_tryFrom_17 : decode cX2_tryFrom 17 = .ok (.iadd, 1) := by decide +kernel
theorem dX2_tryFrom_18 : decode cX2_tryFrom 18 = .ok (.iload_n 2, 1) := by decide +kernel
theorem dX2_tryFrom_19 : decode cX2_tryFrom 19 = .ok (.invokestatic 92, 3) := by decide +kernel
theorem dX2_tryFrom_22 : decode cX2_tryFrom 22 = .ok (.istore_n 3, 1) := by decide +kernel
theorem dX2_tryFrom_23 : decode cX2_tryFrom 23 = .ok (.iconst 0, 1) := by decide +kernel
theorem dX2_tryFrom_24 : decode cX2_tryFrom 24 = .ok (.istore 4, 2) := by decide +kernel
theorem dX2_tryFrom_26 : decode cX2_tryFrom 26 = .ok (.iload 4, 2) := by decide +kernel
theorem dX2_tryFrom_28 : decode cX2_tryFrom 28 = .ok (.aload_n 0, 1) := by decide +kernel
theorem dX2_tryFrom_29 : decode cX2_tryFrom 29 = .ok (.getfield 34, 3) := by decide +kernel
theorem dX2_tryFrom_32 : decode cX2_tryFrom 32 = .ok (.if_icmp .ge 101, 3) := by decide +kernel
theorem dX2_tryFrom_35 : decode cX2_tryFrom 35 = .ok (.aload_n 0, 1) := by decide +kernel
theorem dX2_tryFrom_36 : decode cX2_tryFrom 36 = .ok (.getfield 11, 3) := by decide +kernel
theorem dX2_tryFrom_39 : decode cX2_tryFrom 39 = .ok (.iload 4, 2) := by decide +kernel
theorem dX2_tryFrom_41 : decode cX2_tryFrom 41 = .ok (.invokestatic 45, 3) := by decide +kernel
theorem dX2_tryFrom_44 : decode cX2_tryFrom 44 = .ok (.iload_n 1, 1) := by decide +kernel
theorem dX2_tryFrom_45 : decode cX2_tryFrom 45 = .ok (.invokestatic 49, 3) := by decide +kernel
theorem dX2_tryFrom_48 : decode cX2_tryFrom 48 = .ok (.ifCond .eq 79, 3) := by decide +kernel
theorem dX2_tryFrom_51 : decode cX2_tryFrom 51 = .ok (.aload_n 0, 1) := by decide +kernel
theorem dX2_tryFrom_52 : decode cX2_tryFrom 52 = .ok (.getfield 18, 3) := by decide +kernel
theorem dX2_tryFrom_55 : decode cX2_tryFrom 55 = .ok (.iload 4, 2) := by decide +kernel
theorem dX2_tryFrom_57 : decode cX2_tryFrom 57 = .ok (.invokestatic 45, 3) := by decide +kernel
theorem dX2_tryFrom_60 : decode cX2_tryFrom 60 = .ok (.istore 5, 2) := by decide +kernel
theorem dX2_tryFrom_62 : decode cX2_tryFrom 62 = .ok (.iload 5, 2) := by decide +kernel
theorem dX2_tryFrom_64 : decode cX2_tryFrom 64 = .ok (.iconst 1, 1) := by decide +kernel
theorem dX2_tryFrom_65 : decode cX2_tryFrom 65 = .ok (.iload_n 1, 1) := by decide +kernel
theorem dX2_tryFrom_66 : decode cX2_tryFrom 66 = .ok (.ishl, 1) := by decide +kernel
theorem dX2_tryFrom_67 : decode cX2_tryFrom 67 = .ok (.ior, 1) := by decide +kernel
theorem dX2_tryFrom_68 : decode cX2_tryFrom 68 = .ok (.istore 6, 2) := by decide +kernel
theorem dX2_tryFrom_70 : decode cX2_tryFrom 70 = .ok (.aload_n 0, 1) := by decide +kernel
theorem dX2_tryFrom_71 : decode cX2_tryFrom 71 = .ok (.iload 4, 2) := by decide +kernel
theorem dX2_tryFrom_73 : decode cX2_tryFrom 73 = .ok (.iload 6, 2) := by decide +kernel
theorem dX2_tryFrom_75 : decode cX2_tryFrom 75 = .ok (.invokevirtual 68, 3) := by decide +kernel
theorem dX2_tryFrom_78 : decode cX2_tryFrom 78 = .ok (.aload_n 0, 1) := by decide +kernel
theorem dX2_tryFrom_79 : decode cX2_tryFrom 79 = .ok (.iload 4, 2) := by decide +kernel
theorem dX2_tryFrom_81 : decode cX2_tryFrom 81 = .ok (.iload 5, 2) := by decide +kernel
theorem dX2_tryFrom_83 : decode cX2_tryFrom 83 = .ok (.invokevirtual 68, 3) := by decide +kernel
theorem dX2_tryFrom_86 : decode cX2_tryFrom 86 = .ok (.isub, 1) := by decide +kernel
theorem dX2_tryFrom_87 : decode cX2_tryFrom 87 = .ok (.istore 7, 2) := by decide +kernel
theorem dX2_tryFrom_89 : decode cX2_tryFrom 89 = .ok (.aload_n 0, 1) := by decide +kernel
theorem dX2_tryFrom_90 : decode cX2_tryFrom 90 = .ok (.getfield 18, 3) := by decide +kernel
theorem dX2_tryFrom_93 : decode cX2_tryFrom 93 = .ok (.iload 4, 2) := by decide +kernel
theorem dX2_tryFrom_95 : decode cX2_tryFrom 95 = .ok (.iload 6, 2) := by decide +kernel
theorem dX2_tryFrom_97 : decode cX2_tryFrom 97 = .ok (.invokestatic 41, 3) := by decide +kernel
theorem dX2_tryFrom_100 : decode cX2_tryFrom 100 = .ok (.iload_n 3, 1) := by decide +kernel
theorem dX2_tryFrom_101 : decode cX2_tryFrom 101 = .ok (.aload_n 0, 1) := by decide +kernel
theorem dX2_tryFrom_102 : decode cX2_tryFrom 102 = .ok (.iload_n 1, 1) := by decide +kernel
theorem dX2_tryFrom_103 : decode cX2_tryFrom 103 = .ok (.iconst 1, 1) := by decide +kernel
theorem dX2_tryFrom_104 : decode cX2_tryFrom 104 = .ok (.iadd, 1) := by decide +kernel
theorem dX2_tryFrom_105 : decode cX2_tryFrom 105 = .ok (.iload_n 2, 1) := by decide +kernel
theorem dX2_tryFrom_106 : decode cX2_tryFrom 106 = .ok (.iload 7, 2) := by decide +kernel
theorem dX2_tryFrom_108 : decode cX2_tryFrom 108 = .ok (.iadd, 1) := by decide +kernel
theorem dX2_tryFrom_109 : decode cX2_tryFrom 109 = .ok (.invokestatic 92, 3) := by decide +kernel
theorem dX2_tryFrom_112 : decode cX2_tryFrom 112 = .ok (.invokestatic 28, 3) := by decide +kernel
theorem dX2_tryFrom_115 : decode cX2_tryFrom 115 = .ok (.istore_n 3, 1) := by decide +kernel
theorem dX2_tryFrom_116 : decode cX2_tryFrom 116 = .ok (.aload_n 0, 1) := by decide +kernel
theorem dX2_tryFrom_117 : decode cX2_tryFrom 117 = .ok (.getfield 18, 3) := by decide +kernel
theorem dX2_tryFrom_120 : decode cX2_tryFrom 120 = .ok (.iload 4, 2) := by decide +kernel
theorem dX2_tryFrom_122 : decode cX2_tryFrom 122 = .ok (.iload 5, 2) := by decide +kernel
theorem dX2_tryFrom_124 : decode cX2_tryFrom 124 = .ok (.invokestatic 41, 3) := by decide +kernel
theorem dX2_tryFrom_127 : decode cX2_tryFrom 127 = .ok (.iinc 4 1, 3) := by decide +kernel
theorem dX2_tryFrom_130 : decode cX2_tryFrom 130 = .ok (.goto (-104), 3) := by decide +kernel
theorem dX2_tryFrom_133 : decode cX2_tryFrom 133 = .ok (.iload_n 3, 1) := by decide +kernel
theorem dX2_tryFrom_134 : decode cX2_tryFrom 134 = .ok (.ireturn, 1) := by decide +kernel
set_option maxRecDepth 20000 in
theorem ggX3_init_X2_init : GoodIn wsX3_init wsX2_init := goodIn_r _ [20, 21, 2, 3, 4, 22, 23, 24, 25, 26, 27, 37, 38, 39, 40, 41, 42, 43] (by decide +kernel) (by decide +kernel)
set_option maxRecDepth 20000 in
theorem gX3_init_X2_init_n30 : GoodIn wsX3_init (wsX2_init) := ggX3_init_X2_init
theorem dX3_init_0 : decode cX3_init 0 = .ok (.aload_n 0, 1) := by decide +kernel
theorem dX3_init_1 : decode cX3_init 1 = .ok (.invokespecial 1, 3) := by decide +kernel
theorem dX3_init_4 : decode cX3_init 4 = .ok (.aload_n 0, 1) := by decide +kernel
theorem dX3_init_5 : decode cX3_init 5 = .ok (.iconst 4, 1) := by decide +kernel
theorem dX3_init_6 : decode cX3_init 6 = .ok (.newarray .int, 2) := by decide +kernel
theorem dX3_init_8 : decode cX3_init 8 = .ok (.dup, 1) := by decide +kernel
theorem dX3_init_9 : decode cX3_init 9 = .ok (.iconst 0, 1) := by decide +kernel
theorem dX3_init_10 : decode cX3_init 10 = .ok (.iconst 0, 1) := by decide +kernel
theorem dX3_init_11 : decode cX3_init 11 = .ok (.iastore, 1) := by decide +kernel
theorem dX3_init_12 : decode cX3_init 12 = .ok (.dup, 1) := by decide +kernel
theorem dX3_init_13 : decode cX3_init 13 = .ok (.iconst 1, 1) := by decide +kernel
theorem dX3_init_14 : decode cX3_init 14 = .ok (.bipush 20, 2) := by decide +kernel
theorem dX3_init_16 : decode cX3_init 16 = .ok (.iastore, 1) := by decide +kernel
theorem dX3_init_17 : decode cX3_init 17 = .ok (.dup, 1) := by decide +kernel
theorem dX3_init_18 : decode cX3_init 18 = .ok (.iconst 2, 1) := by decide +kernel
theorem dX3_init_19 : decode cX3_init 19 = .ok (.bipush 50, 2) := by decide +kernel
theorem dX3_init_21 : decode cX3_init 21 = .ok (.iastore, 1) := by decide +kernel
theorem dX3_init_22 : decode cX3_init 22 = .ok (.dup, 1) := by decide +kernel
theorem dX3_init_23 : decode cX3_init 23 = .ok (.iconst 3, 1) := by decide +kernel
theorem dX3_init_24 : decode cX3_init 24 = .ok (.bipush 100, 2) := by decide +kernel
theorem dX3_init_26 : decode cX3_init 26 = .ok (.iastore, 1) := by decide +kernel
theorem dX3_init_27 : decode cX3_init 27 = .ok (.putfield 7, 3) := by decide +kernel
theorem dX3_init_30 : decode cX3_init 30 = .ok (.aload_n 0, 1) := by decide +kernel
theorem dX3_init_31 : decode cX3_init 31 = .ok (.iconst 4, 1) := by decide +kernel
theorem dX3_init_32 : decode cX3_init 32 = .ok (.newarray .int, 2) := by decide +kernel
theorem dX3_init_34 : decode cX3_init 34 = .ok (.dup, 1) := by decide +kernel
theorem dX3_init_35 : decode cX3_init 35 = .ok (.iconst 0, 1) := by decide +kernel
theorem dX3_init_36 : decode cX3_init 36 = .ok (.iconst 0, 1) := by decide +kernel
theorem dX3_init_37 : decode cX3_init 37 = .ok (.iastore, 1) := by decide +kernel
theorem dX3_init_38 : decode cX3_init 38 = .ok (.dup, 1) := by decide +kernel
theorem dX3_init_39 : decode cX3_init 39 = .ok (.iconst 1, 1) := by decide +kernel
theorem dX3_init_40 : decode cX3_init 40 = .ok (.bipush 50, 2) := by decide +kernel
theorem dX3_init_42 : decode cX3_init 42 = .ok (.iastore, 1) := by decide +kernel
theorem dX3_init_43 : decode cX3_init 43 = .ok (.dup, 1) := by decide +kernel
theorem dX3_init_44 : decode cX3_init 44 = .ok (.iconst 2, 1) := by decide +kernel
theorem dX3_init_45 : decode cX3_init 45 = .ok (.bipush 100, 2) := by decide +kernel
theorem dX3_init_47 : decode cX3_init 47 = .ok (.iastore, 1) := by decide +kernel
theorem dX3_init_48 : decode cX3_init 48 = .ok (.dup, 1) := by decide +kernel
theorem dX3_init_49 : decode cX3_init 49 = .ok (.iconst 3, 1) := by decide +kernel
theorem dX3_init_50 : decode cX3_init 50 = .ok (.bipush 100, 2) := by decide +kernel
theorem dX3_init_52 : decode cX3_init 52 = .ok (.iastore, 1) := by decide +kernel
theorem dX3_init_53 : decode cX3_init 53 = .ok (.putfield 13, 3) := by decide +kernel
theorem dX3_init_56 : decode cX3_init 56 = .ok (.aload_n 0, 1) := by decide +kernel
theorem dX3_init_57 : decode cX3_init 57 = .ok (.bipush 8, 2) := by decide +kernel
theorem dX3_init_59 : decode cX3_init 59 = .ok (.anewarray 16, 3) := by decide +kernel
theorem dX3_init_62 : decode cX3_init 62 = .ok (.putfield 18, 3) := by decide +kernel
theorem dX3_init_65 : decode cX3_init 65 = .ok (.aload_n 0, 1) := by decide +kernel
theorem dX3_init_66 : decode cX3_init 66 = .ok (.iconst 5, 1) := by decide +kernel
theorem dX3_init_67 : decode cX3_init 67 = .ok (.anewarray 22, 3) := by decide +kernel
theorem dX3_init_70 : decode cX3_init 70 = .ok (.putfield 24, 3) := by decide +kernel
theorem dX3_init_73 : decode cX3_init 73 = .ok (.aload_n 0, 1) := by decide +kernel
theorem dX3_init_74 : decode cX3_init 74 = .ok (.new 28, 3) := by decide +kernel
theorem dX3_init_77 : decode cX3_init 77 = .ok (.dup, 1) := by decide +kernel
theorem dX3_init_78 : decode cX3_init 78 = .ok (.invokespecial 30, 3) := by decide +kernel
theorem dX3_init_81 : decode cX3_init 81 = .ok (.putfield 31, 3) := by decide +kernel
theorem dX3_init_84 : decode cX3_init 84 = .ok (.aload_n 0, 1) := by decide +kernel
theorem dX3_init_85 : decode cX3_init 85 = .ok (.iconst 0, 1) := by decide +kernel
theorem dX3_init_86 : decode cX3_init 86 = .ok (.putfield 35, 3) := by decide +kernel
theorem dX3_init_89 : decode cX3_init 89 = .ok (.aload_n 0, 1) := by decide +kernel
theorem dX3_init_90 : decode cX3_init 90 = .ok (.iconst 0, 1) := by decide +kernel
theorem dX3_init_91 : decode cX3_init 91 = .ok (.putfield 39, 3) := by decide +kernel
theorem dX3_init_94 : decode cX3_init 94 = .ok (.aload_n 0, 1) := by decide +kernel
theorem dX3_init_95 : decode cX3_init 95 = .ok (.bipush 70, 2) := by decide +kernel
theorem dX3_init_97 : decode cX3_init 97 = .ok (.putfield 42, 3) := by decide +kernel
theorem dX3_init_100 : decode cX3_init 100 = .ok (.aload_n 0, 1) := by decide +kernel
theorem dX3_init_101 : decode cX3_init 101 = .ok (.iconst 0, 1) := by decide +kernel
theorem dX3_init_102 : decode cX3_init 102 = .ok (.putfield 45, 3) := by decide +kernel
theorem dX3_init_105 : decode cX3_init 105 = .ok (.return_, 1) := by decide +kernel
set_option maxRecDepth 20000 in
theorem ggX3_setWeights_X3_isClass : GoodIn wsX3_setWeights wsX3_isClass := goodIn_r _ [10, 11, 12, 9, 13] (by decide +kernel) (by decide +kernel)
set_option maxRecDepth 20000 in
theorem gX3_setWeights_X3_isClass : GoodIn wsX3_setWeights (va_wsS RX3 48 yX3_isClass wsX3_isClass) := goodIn_app (goodIn_of _ (by decide +kernel)) ggX3_setWeights_X3_isClass
set_option maxRecDepth 20000 in
theorem ggX3_setWeights_X3_isWithin : GoodIn wsX3_setWeights wsX3_isWithin := goodIn_r _ [13] (by decide +kernel) (by decide +kernel)
set_option maxRecDepth 20000 in
theorem gX3_setWeights_X3_isWithin : GoodIn wsX3_setWeights (va_wsS RX3 59 yX3_isWithin wsX3_isWithin) := goodIn_app (goodIn_of _ (by decide +kernel)) ggX3_setWeights_X3_isWithin
set_option maxRecDepth 20000 in
theorem ggX3_setWeights_X3_at : GoodIn wsX3_setWeights wsX3_at := goodIn_r _ [16] (by decide +kernel) (by decide +kernel)
set_option maxRecDepth 20000 in
theorem gX3_setWeights_X3_at : GoodIn wsX3_setWeights (va_wsS RX3 68 yX3_at wsX3_at) := goodIn_app (goodIn_of _ (by decide +kernel)) ggX3_setWeights_X3_at
set_option maxRecDepth 20000 in
theorem ggX3_setWeights_X3_put : GoodIn wsX3_setWeights wsX3_put := goodIn_r _ [19] (by decide +kernel) (by decide +kernel)
set_option maxRecDepth 20000 in
theorem gX3_setWeights_X3_put : GoodIn wsX3_setWeights (va_wsS RX3 72 yX3_put wsX3_put) := goodIn_app (goodIn_of _ (by decide +kernel)) ggX3_setWeights_X3_put
theorem dX3_setWeights_0 : decode cX3_setWeights 0 = .ok (.iload_n 1, 1) := by decide +kernel
theorem dX3_setWeights_1 : decode cX3_setWeights 1 = .ok (.invokestatic 48, 3) := by decide +kernel
theorem dX3_setWeights_4 : decode cX3_setWeights 4 = .ok (.ifCond .ne 13, 3) := by decide +kernel
theorem dX3_setWeights_7 : decode cX3_setWeights 7 = .ok (.new 52, 3) := by decide +kernel
theorem dX3_setWeights_10 : decode cX3_setWeights 10 = .ok (.dup, 1) := by decide +kernel
theorem dX3_setWeights_11 : decode cX3_setWeights 11 = .ok (.ldc 54, 2) := by decide +kernel
theorem dX3_setWeights_13 : decode cX3_setWeights 13 = .ok (.invokespecial 56, 3) := by decide +kernel
theorem dX3_setWeights_16 : decode cX3_setWeights 16 = .ok (.athrow, 1) := by decide +kernel
theorem dX3_setWeights_17 : decode cX3_setWeights 17 = .ok (.iload_n 2, 1) := by decide +kernel
theorem dX3_setWeights_18 : decode cX3_setWeights 18 = .ok (.iconst 0, 1) := by decide +kernel
theorem dX3_setWeights_19 : decode cX3_setWeights 19 = .ok (.sipush 400, 3) := by decide +kernel
theorem dX3_setWeights_22 : decode cX3_setWeights 22 = .ok (.invokestatic 59, 3) := by decide +kernel
theorem dX3_setWeights_25 : decode cX3_setWeights 25 = .ok (.ifCond .eq 14, 3) := by decide +kernel
theorem dX3_setWeights_28 : decode cX3_setWeights 28 = .ok (.iload_n 3, 1) := by decide +kernel
theorem dX3_setWeights_29 : decode cX3_setWeights 29 = .ok (.iconst 0, 1) := by decide +kernel
theorem dX3_setWeights_30 : decode cX3_setWeights 30 = .ok (.sipush 400, 3) := by decide +kernel
theorem dX3_setWeights_33 : decode cX3_setWeights 33 = .ok (.invokestatic 59, 3) := by decide +kernel
theorem dX3_setWeights_36 : decode cX3_setWeights 36 = .ok (.ifCond .ne 13, 3) := by decide +kernel
theorem dX3_setWeights_39 : decode cX3_setWeights 39 = .ok (.new 63, 3) := by decide +kernel
theorem dX3_setWeights_42 : decode cX3_setWeights 42 = .ok (.dup, 1) := by decide +kernel
theorem dX3_setWeights_43 : decode cX3_setWeights 43 = .ok (.ldc 65, 2) := by decide +kernel
theorem dX3_setWeights_45 : decode cX3_setWeights 45 = .ok (.invokespecial 67, 3) := by decide +kernel
theorem dX3_setWeights_48 : decode cX3_setWeights 48 = .ok (.athrow, 1) := by decide +kernel
theorem dX3_setWeights_49 : decode cX3_setWeights 49 = .ok (.aload_n 0, 1) := by decide +kernel
theorem dX3_setWeights_50 : decode cX3_setWeights 50 = .ok (.getfield 7, 3) := by decide +kernel
theorem dX3_setWeights_53 : decode cX3_setWeights 53 = .ok (.iload_n 1, 1) := by decide +kernel
theorem dX3_setWeights_54 : decode cX3_setWeights 54 = .ok (.invokestatic 68, 3) := by decide +kernel
theorem dX3_setWeights_57 : decode cX3_setWeights 57 = .ok (.istore 4, 2) := by decide +kernel
theorem dX3_setWeights_59 : decode cX3_setWeights 59 = .ok (.aload_n 0, 1) := by decide +kernel
theorem dX3_setWeights_60 : decode cX3_setWeights 60 = .ok (.getfield 7, 3) := by decide +kernel
theorem dX3_setWeights_63 : decode cX3_setWeights 63 = .ok (.iload_n 1, 1) := by decide +kernel
theorem dX3_setWeights_64 : decode cX3_setWeights 64 = .ok (.iload_n 2, 1) := by decide +kernel
theorem dX3_setWeights_65 : decode cX3_setWeights 65 = .ok (.invokestatic 72, 3) := by decide +kernel
theorem dX3_setWeights_68 : decode cX3_setWeights 68 = .ok (.aload_n 0, 1) := by decide +kernel
theorem dX3_setWeights_69 : decode cX3_setWeights 69 = .ok (.getfield 13, 3) := by decide +kernel
theorem dX3_setWeights_72 : decode cX3_setWeights 72 = .ok (.iload_n 1, 1) := by decide +kernel
theorem dX3_setWeights_73 : decode cX3_setWeights 73 = .ok (.iload_n 3, 1) := by decide +kernel
theorem dX3_setWeights_74 : decode cX3_setWeights 74 = .ok (.invokestatic 72, 3) := by decide +kernel
theorem dX3_setWeights_77 : decode cX3_setWeights 77 = .ok (.iload 4, 2) := by decide +kernel
theorem dX3_setWeights_79 : decode cX3_setWeights 79 = .ok (.ireturn, 1) := by decide +kernel
set_option maxRecDepth 20000 in
theorem ggX3_setFloor_X3_isWithin : GoodIn wsX3_setFloor wsX3_isWithin := goodIn_r _ [7] (by decide +kernel) (by decide +kernel)
set_option maxRecDepth 20000 in
theorem gX3_setFloor_X3_isWithin : GoodIn wsX3_setFloor (va_wsS RX3 59 yX3_isWithin wsX3_isWithin) := goodIn_app (goodIn_of _ (by decide +kernel)) ggX3_setFloor_X3_isWithin
theorem dX3_setFloor_0 : decode cX3_setFloor 0 = .ok (.iload_n 1, 1) := by decide +kernel
theorem dX3_setFloor_1 : decode cX3_setFloor 1 = .ok (.iconst 0, 1) := by decide +kernel
theorem dX3_setFloor_2 : decode cX3_setFloor 2 = .ok (.bipush 100, 2) := by decide +kernel
theorem dX3_setFloor_4 : decode cX3_setFloor 4 = .ok (.invokestatic 59, 3) := by decide +kernel
theorem dX3_setFloor_7 : decode cX3_setFloor 7 = .ok (.ifCond .ne 13, 3) := by decide +kernel
theorem dX3_setFloor_10 : decode cX3_setFloor 10 = .ok (.new 63, 3) := by decide +kernel
theorem dX3_setFloor_13 : decode cX3_setFloor 13 = .ok (.dup, 1) := by decide +kernel
theorem dX3_setFloor_14 : decode cX3_setFloor 14 = .ok (.ldc 76, 2) := by decide +kernel
theorem dX3_setFloor_16 : decode cX3_setFloor 16 = .ok (.invokespecial 67, 3) := by decide +kernel
theorem dX3_setFloor_19 : decode cX3_setFloor 19 = .ok (.athrow, 1) := by decide +kernel
theorem dX3_setFloor_20 : decode cX3_setFloor 20 = .ok (.aload_n 0, 1) := by decide +kernel
theorem dX3_setFloor_21 : decode cX3_setFloor 21 = .ok (.getfield 42, 3) := by decide +kernel
theorem dX3_setFloor_24 : decode cX3_setFloor 24 = .ok (.istore_n 2, 1) := by decide +kernel
theorem dX3_setFloor_25 : decode cX3_setFloor 25 = .ok (.aload_n 0, 1) := by decide +kernel
theorem dX3_setFloor_26 : decode cX3_setFloor 26 = .ok (.iload_n 1, 1) := by decide +kernel
theorem dX3_setFloor_27 : decode cX3_setFloor 27 = .ok (.putfield 42, 3) := by decide +kernel
theorem dX3_setFloor_30 : decode cX3_setFloor 30 = .ok (.iload_n 2, 1) := by decide +kernel
theorem dX3_setFloor_31 : decode cX3_setFloor 31 = .ok (.ireturn, 1) := by decide +kernel
set_option maxRecDepth 20000 in
theorem ggX3_setCapital_X3_isWithin : GoodIn wsX3_setCapital wsX3_isWithin := goodIn_r _ [8] (by decide +kernel) (by decide +kernel)
set_option maxRecDepth 20000 in
theorem gX3_setCapital_X3_isWithin : GoodIn wsX3_setCapital (va_wsS RX3 59 yX3_isWithin wsX3_isWithin) := goodIn_app (goodIn_of _ (by decide +kernel)) ggX3_setCapital_X3_isWithin
theorem dX3_setCapital_0 : decode cX3_setCapital 0 = .ok (.iload_n 1, 1) := by decide +kernel
theorem dX3_setCapital_1 : decode cX3_setCapital 1 = .ok (.iconst 0, 1) := by decide +kernel
theorem dX3_setCapital_2 : decode cX3_setCapital 2 = .ok (.ldc 78, 2) := by decide +kernel
theorem dX3_setCapital_4 : decode cX3_setCapital 4 = .ok (.invokestatic 59, 3) := by decide +kernel
theorem dX3_setCapital_7 : decode cX3_setCapital 7 = .ok (.ifCond .ne 13, 3) := by decide +kernel
theorem dX3_setCapital_10 : decode cX3_setCapital 10 = .ok (.new 63, 3) := by decide +kernel
theorem dX3_setCapital_13 : decode cX3_setCapital 13 = .ok (.dup, 1) := by decide +kernel
theorem dX3_setCapital_14 : decode cX3_setCapital 14 = .ok (.ldc 79, 2) := by decide +kernel
theorem dX3_setCapital_16 : decode cX3_setCapital 16 = .ok (.invokespecial 67, 3) := by decide +kernel
theorem dX3_setCapital_19 : decode cX3_setCapital 19 = .ok (.athrow, 1) := by decide +kernel
theorem dX3_setCapital_20 : decode cX3_setCapital 20 = .ok (.aload_n 0, 1) := by decide +kernel
theorem dX3_setCapital_21 : decode cX3_setCapital 21 = .ok (.getfield 45, 3) := by decide +kernel
theorem dX3_setCapital_24 : decode cX3_setCapital 24 = .ok (.istore_n 2, 1) := by decide +kernel
theorem dX3_setCapital_25 : decode cX3_setCapital 25 = .ok (.aload_n 0, 1) := by decide +kernel
theorem dX3_setCapital_26 : decode cX3_setCapital 26 = .ok (.iload_n 1, 1) := by decide +kernel
theorem dX3_setCapital_27 : decode cX3_setCapital 27 = .ok (.putfield 45, 3) := by decide +kernel
theorem dX3_setCapital_30 : decode cX3_setCapital 30 = .ok (.iload_n 2, 1) := by decide +kernel
theorem dX3_setCapital_31 : decode cX3_setCapital 31 = .ok (.ireturn, 1) := by decide +kernel
set_option maxRecDepth 20000 in
theorem ggX3_addExposure_X3_isClass : GoodIn wsX3_addExposure wsX3_isClass := goodIn_r _ [15, 16, 17, 14, 18] (by decide +kernel) (by decide +kernel)
set_option maxRecDepth 20000 in
theorem gX3_addExposure_X3_isClass : GoodIn wsX3_addExposure (va_wsS RX3 48 yX3_isClass wsX3_isClass) := goodIn_app (goodIn_of _ (by decide +kernel)) ggX3_addExposure_X3_isClass
set_option maxRecDepth 20000 in
theorem ggX3_addExposure_X3_isParty : GoodIn wsX3_addExposure wsX3_isParty := goodIn_r _ [21, 16, 17, 14, 18] (by decide +kernel) (by decide +kernel)
set_option maxRecDepth 20000 in
theorem gX3_addExposure_X3_isParty : GoodIn wsX3_addExposure (va_wsS RX3 81 yX3_isParty wsX3_isParty) := goodIn_app (goodIn_of _ (by decide +kernel)) ggX3_addExposure_X3_isParty
set_option maxRecDepth 20000 in
theorem ggX3_addExposure_X3_isPart : GoodIn wsX3_addExposure wsX3_isPart := goodIn_r _ [24, 25, 16, 17, 14, 18] (by decide +kernel) (by decide +kernel)
set_option maxRecDepth 20000 in
theorem gX3_addExposure_X3_isPart : GoodIn wsX3_addExposure (va_wsS RX3 86 yX3_isPart wsX3_isPart) := goodIn_app (goodIn_of _ (by decide +kernel)) ggX3_addExposure_X3_isPart
set_option maxRecDepth 20000 in
theorem ggX3_addExposure_X3_isCurrency : GoodIn wsX3_addExposure wsX3_isCurrency := goodIn_r _ [28, 16, 17, 14, 18] (by decide +kernel) (by decide +kernel)
set_option maxRecDepth 20000 in
theorem gX3_addExposure_X3_isCurrency : GoodIn wsX3_addExposure (va_wsS RX3 89 yX3_isCurrency wsX3_isCurrency) := goodIn_app (goodIn_of _ (by decide +kernel)) ggX3_addExposure_X3_isCurrency
set_option maxRecDepth 20000 in
theorem ggX3_addExposure_X3_isDays : GoodIn wsX3_addExposure wsX3_isDays := goodIn_r _ [31, 16, 17, 14, 18] (by decide +kernel) (by decide +kernel)
set_option maxRecDepth 20000 in
theorem gX3_addExposure_X3_isDays : GoodIn wsX3_addExposure (va_wsS RX3 92 yX3_isDays wsX3_isDays) := goodIn_app (goodIn_of _ (by decide +kernel)) ggX3_addExposure_X3_isDays
set_option maxRecDepth 20000 in
theorem ggX3_addExposure_X0_init : GoodIn wsX3_addExposure wsX0_init := goodIn_r _ [33, 34, 35, 36, 37, 38, 39, 40, 41, 42, 43, 44, 54, 55, 56, 57, 58, 59, 60, 61] (by decide +kernel) (by decide +kernel)
set_option maxRecDepth 20000 in
theorem gX3_addExposure_X0_init_n102 : GoodIn wsX3_addExposure (wsX0_init) := ggX3_addExposure_X0_init
theorem dX3_addExposure_0 : decode cX3_addExposure 0 = .ok (.iload_n 1, 1) := by decide +kernel
theorem dX3_addExposure_1 : decode cX3_addExposure 1 = .ok (.invokestatic 48, 3) := by decide +kernel
theorem dX3_addExposure_4 : decode cX3_addExposure 4 = .ok (.ifCond .eq 10, 3) := by decide +kernel
theorem dX3_addExposure_7 : decode cX3_addExposure 7 = .ok (.iload_n 2, 1) := by decide +kernel
theorem dX3_addExposure_8 : decode cX3_addExposure 8 = .ok (.invokestatic 81, 3) := by decide +kernel
theorem dX3_addExposure_11 : decode cX3_addExposure 11 = .ok (.ifCond .ne 13, 3) := by decide +kernel
theorem dX3_addExposure_14 : decode cX3_addExposure 14 = .ok (.new 52, 3) := by decide +kernel
theorem dX3_addExposure_17 : decode cX3_addExposure 17 = .ok (.dup, 1) := by decide +kernel
theorem dX3_addExposure_18 : decode cX3_addExposure 18 = .ok (.ldc 84, 2) := by decide +kernel
theorem dX3_addExposure_20 : decode cX3_addExposure 20 = .ok (.invokespecial 56, 3) := by decide +kernel
theorem dX3_addExposure_23 : decode cX3_addExposure 23 = .ok (.athrow, 1) := by decide +kernel
theorem dX3_addExposure_24 : decode cX3_addExposure 24 = .ok (.iload_n 3, 1) := by decide +kernel
theorem dX3_addExposure_25 : decode cX3_addExposure 25 = .ok (.invokestatic 86, 3) := by decide +kernel
theorem dX3_addExposure_28 : decode cX3_addExposure 28 = .ok (.ifCond .eq 27, 3) := by decide +kernel
theorem dX3_addExposure_31 : decode cX3_addExposure 31 = .ok (.iload 4, 2) := by decide +kernel
theorem dX3_addExposure_33 : decode cX3_addExposure 33 = .ok (.invokestatic 86, 3) := by decide +kernel
theorem dX3_addExposure_36 : decode cX3_addExposure 36 = .ok (.ifCond .eq 19, 3) := by decide +kernel
theorem dX3_addExposure_39 : decode cX3_addExposure 39 = .ok (.iload 5, 2) := by decide +kernel
theorem dX3_addExposure_41 : decode cX3_addExposure 41 = .ok (.invokestatic 89, 3) := by decide +kernel
theorem dX3_addExposure_44 : decode cX3_addExposure 44 = .ok (.ifCond .eq 11, 3) := by decide +kernel
theorem dX3_addExposure_47 : decode cX3_addExposure 47 = .ok (.iload 6, 2) := by decide +kernel
theorem dX3_addExposure_49 : decode cX3_addExposure 49 = .ok (.invokestatic 92, 3) := by decide +kernel
theorem dX3_addExposure_52 : decode cX3_addExposure 52 = .ok (.ifCond .ne 13, 3) := by decide +kernel
theorem dX3_addExposure_55 : decode cX3_addExposure 55 = .ok (.new 63, 3) := by decide +kernel
theorem dX3_addExposure_58 : decode cX3_addExposure 58 = .ok (.dup, 1) := by decide +kernel
theorem dX3_addExposure_59 : decode cX3_addExposure 59 = .ok (.ldc 95, 2) := by decide +kernel
theorem dX3_addExposure_61 : decode cX3_addExposure 61 = .ok (.invokespecial 67, 3) := by decide +kernel
theorem dX3_addExposure_64 : decode cX3_addExposure 64 = .ok (.athrow, 1) := by decide +kernel
theorem dX3_addExposure_65 : decode cX3_addExposure 65 = .ok (.aload_n 0, 1) := by decide +kernel
theorem dX3_addExposure_66 : decode cX3_addExposure 66 = .ok (.getfield 35, 3) := by decide +kernel
theorem dX3_addExposure_69 : decode cX3_addExposure 69 = .ok (.istore 7, 2) := by decide +kernel
theorem dX3_addExposure_71 : decode cX3_addExposure 71 = .ok (.iload 7, 2) := by decide +kernel
theorem dX3_addExposure_73 : decode cX3_addExposure 73 = .ok (.ifCond .lt 13, 3) := by decide +kernel
theorem dX3_addExposure_76 : decode cX3_addExposure 76 = .ok (.iload 7, 2) := by decide +kernel
theorem dX3_addExposure_78 : decode cX3_addExposure 78 = .ok (.aload_n 0, 1) := by decide +kernel
theorem dX3_addExposure_79 : decode cX3_addExposure 79 = .ok (.getfield 18, 3) := by decide +kernel
theorem dX3_addExposure_82 : decode cX3_addExposure 82 = .ok (.arraylength, 1) := by decide +kernel
theorem dX3_addExposure_83 : decode cX3_addExposure 83 = .ok (.if_icmp .lt 13, 3) := by decide +kernel
theorem dX3_addExposure_86 : decode cX3_addExposure 86 = .ok (.new 97, 3) := by decide +kernel
theorem dX3_addExposure_89 : decode cX3_addExposure 89 = .ok (.dup, 1) := by decide +kernel
theorem dX3_addExposure_90 : decode cX3_addExposure 90 = .ok (.ldc 99, 2) := by decide +kernel
theorem dX3_addExposure_92 : decode cX3_addExposure 92 = .ok (.invokespecial 101, 3) := by decide +kernel
theorem dX3_addExposure_95 : decode cX3_addExposure 95 = .ok (.athrow, 1) := by decide +kernel
theorem dX3_addExposure_96 : decode cX3_addExposure 96 = .ok (.aload_n 0, 1) := by decide +kernel
theorem dX3_addExposure_97 : decode cX3_addExposure 97 = .ok (.getfield 18, 3) := by decide +kernel
theorem dX3_addExposure_100 : decode cX3_addExposure 100 = .ok (.iload 7, 2) := by decide +kernel
theorem dX3_addExposure_102 : decode cX3_addExposure 102 = .ok (.new 16, 3) := by decide +kernel
theorem dX3_addExposure_105 : decode cX3_addExposure 105 = .ok (.dup, 1) := by decide +kernel
theorem dX3_addExposure_106 : decode cX3_addExposure 106 = .ok (.iload_n 1, 1) := by decide +kernel
theorem dX3_addExposure_107 : decode cX3_addExposure 107 = .ok (.iload_n 2, 1) := by decide +kernel
theorem dX3_addExposure_108 : decode cX3_addExposure 108 = .ok (.iload_n 3, 1) := by decide +kernel
theorem dX3_addExposure_109 : decode cX3_addExposure 109 = .ok (.iload 4, 2) := by decide +kernel
theorem dX3_addExposure_111 : decode cX3_addExposure 111 = .ok (.iload 5, 2) := by decide +kernel
theorem dX3_addExposure_113 : decode cX3_addExposure 113 = .ok (.iload 6, 2) := by decide +kernel
theorem dX3_addExposure_115 : decode cX3_addExposure 115 = .ok (.invokespecial 102, 3) := by decide +kernel
theorem dX3_addExposure_118 : decode cX3_addExposure 118 = .ok (.aastore, 1) := by decide +kernel
theorem dX3_addExposure_119 : decode cX3_addExposure 119 = .ok (.aload_n 0, 1) := by decide +kernel
theorem dX3_addExposure_120 : decode cX3_addExposure 120 = .ok (.iload 7, 2) := by decide +kernel
theorem dX3_addExposure_122 : decode cX3_addExposure 122 = .ok (.iconst 1, 1) := by decide +kernel
theorem dX3_addExposure_123 : decode cX3_addExposure 123 = .ok (.iadd, 1) := by decide +kernel
theorem dX3_addExposure_124 : decode cX3_addExposure 124 = .ok (.putfield 35, 3) := by decide +kernel
theorem dX3_addExposure_127 : decode cX3_addExposure 127 = .ok (.iload 7, 2) := by decide +kernel
theorem dX3_addExposure_129 : decode cX3_addExposure 129 = .ok (.ireturn, 1) := by decide +kernel
set_option maxRecDepth 20000 in
theorem ggX3_draw_X3_exposureAt : GoodIn wsX3_draw wsX3_exposureAt := goodIn_r _ [13, 14, 29, 30, 31, 32, 33, 34, 35, 36, 37] (by decide +kernel) (by decide +kernel)
set_option maxRecDepth 20000 in
theorem gX3_draw_X3_exposureAt : GoodIn wsX3_draw (wsV RX3 105 RX3 yX3_exposureAt wsX3_exposureAt) := goodIn_app (goodIn_of _ (by decide +kernel)) ggX3_draw_X3_exposureAt
set_option maxRecDepth 20000 in
theorem ggX3_draw_X3_isWithin : GoodIn wsX3_draw wsX3_isWithin := goodIn_r _ [17] (by decide +kernel) (by decide +kernel)
set_option maxRecDepth 20000 in
theorem gX3_draw_X3_isWithin : GoodIn wsX3_draw (va_wsS RX3 59 yX3_isWithin wsX3_isWithin) := goodIn_app (goodIn_of _ (by decide +kernel)) ggX3_draw_X3_isWithin
set_option maxRecDepth 20000 in
theorem ggX3_draw_X3_isPart : GoodIn wsX3_draw wsX3_isPart := goodIn_r _ [20, 8, 15, 16, 12, 17] (by decide +kernel) (by decide +kernel)
set_option maxRecDepth 20000 in
theorem gX3_draw_X3_isPart : GoodIn wsX3_draw (va_wsS RX3 86 yX3_isPart wsX3_isPart) := goodIn_app (goodIn_of _ (by decide +kernel)) ggX3_draw_X3_isPart
theorem dX3_draw_0 : decode cX3_draw 0 = .ok (.aload_n 0, 1) := by decide +kernel
theorem dX3_draw_1 : decode cX3_draw 1 = .ok (.iload_n 1, 1) := by decide +kernel
theorem dX3_draw_2 : decode cX3_draw 2 = .ok (.invokevirtual 105, 3) := by decide +kernel
theorem dX3_draw_5 : decode cX3_draw 5 = .ok (.astore_n 3, 1) := by decide +kernel
theorem dX3_draw_6 : decode cX3_draw 6 = .ok (.aload_n 3, 1) := by decide +kernel
theorem dX3_draw_7 : decode cX3_draw 7 = .ok (.ifnonnull 13, 3) := by decide +kernel
theorem dX3_draw_10 : decode cX3_draw 10 = .ok (.new 52, 3) := by decide +kernel
theorem dX3_draw_13 : decode cX3_draw 13 = .ok (.dup, 1) := by decide +kernel
theorem dX3_draw_14 : decode cX3_draw 14 = .ok (.ldc 109, 2) := by decide +kernel
theorem dX3_draw_16 : decode cX3_draw 16 = .ok (.invokespecial 56, 3) := by decide +kernel
theorem dX3_draw_19 : decode cX3_draw 19 = .ok (.athrow, 1) := by decide +kernel
theorem dX3_draw_20 : decode cX3_draw 20 = .ok (.iload_n 2, 1) := by decide +kernel
theorem dX3_draw_21 : decode cX3_draw 21 = .ok (.ldc 111, 2) := by decide +kernel
theorem dX3_draw_23 : decode cX3_draw 23 = .ok (.ldc 112, 2) := by decide +kernel
theorem dX3_draw_25 : decode cX3_draw 25 = .ok (.invokestatic 59, 3) := by decide +kernel
theorem dX3_draw_28 : decode cX3_draw 28 = .ok (.ifCond .ne 13, 3) := by decide +kernel
theorem dX3_draw_31 : decode cX3_draw 31 = .ok (.new 63, 3) := by decide +kernel
theorem dX3_draw_34 : decode cX3_draw 34 = .ok (.dup, 1) := by decide +kernel
theorem dX3_draw_35 : decode cX3_draw 35 = .ok (.ldc 79, 2) := by decide +kernel
theorem dX3_draw_37 : decode cX3_draw 37 = .ok (.invokespecial 67, 3) := by decide +kernel
theorem dX3_draw_40 : decode cX3_draw 40 = .ok (.athrow, 1) := by decide +kernel
theorem dX3_draw_41 : decode cX3_draw 41 = .ok (.aload_n 3, 1) := by decide +kernel
theorem dX3_draw_42 : decode cX3_draw 42 = .ok (.getfield 113, 3) := by decide +kernel
theorem dX3_draw_45 : decode cX3_draw 45 = .ok (.iload_n 2, 1) := by decide +kernel
theorem dX3_draw_46 : decode cX3_draw 46 = .ok (.iadd, 1) := by decide +kernel
theorem dX3_draw_47 : decode cX3_draw 47 = .ok (.istore 4, 2) := by decide +kernel
theorem dX3_draw_49 : decode cX3_draw 49 = .ok (.aload_n 3, 1) := by decide +kernel
theorem dX3_draw_50 : decode cX3_draw 50 = .ok (.getfield 116, 3) := by decide +kernel
theorem dX3_draw_53 : decode cX3_draw 53 = .ok (.iload_n 2, 1) := by decide +kernel
theorem dX3_draw_54 : decode cX3_draw 54 = .ok (.isub, 1) := by decide +kernel
theorem dX3_draw_55 : decode cX3_draw 55 = .ok (.istore 5, 2) := by decide +kernel
theorem dX3_draw_57 : decode cX3_draw 57 = .ok (.iload 4, 2) := by decide +kernel
theorem dX3_draw_59 : decode cX3_draw 59 = .ok (.invokestatic 86, 3) := by decide +kernel
theorem dX3_draw_62 : decode cX3_draw 62 = .ok (.ifCond .eq 11, 3) := by decide +kernel
theorem dX3_draw_65 : decode cX3_draw 65 = .ok (.iload 5, 2) := by decide +kernel
theorem dX3_draw_67 : decode cX3_draw 67 = .ok (.invokestatic 86, 3) := by decide +kernel
theorem dX3_draw_70 : decode cX3_draw 70 = .ok (.ifCond .ne 13, 3) := by decide +kernel
theorem dX3_draw_73 : decode cX3_draw 73 = .ok (.new 97, 3) := by decide +kernel
theorem dX3_draw_76 : decode cX3_draw 76 = .ok (.dup, 1) := by decide +kernel
theorem dX3_draw_77 : decode cX3_draw 77 = .ok (.ldc 119, 2) := by decide +kernel
theorem dX3_draw_79 : decode cX3_draw 79 = .ok (.invokespecial 101, 3) := by decide +kernel
theorem dX3_draw_82 : decode cX3_draw 82 = .ok (.athrow, 1) := by decide +kernel
theorem dX3_draw_83 : decode cX3_draw 83 = .ok (.aload_n 3, 1) := by decide +kernel
theorem dX3_draw_84 : decode cX3_draw 84 = .ok (.iload 4, 2) := by decide +kernel
theorem dX3_draw_86 : decode cX3_draw 86 = .ok (.putfield 113, 3) := by decide +kernel
theorem dX3_draw_89 : decode cX3_draw 89 = .ok (.aload_n 3, 1) := by decide +kernel
theorem dX3_draw_90 : decode cX3_draw 90 = .ok (.iload 5, 2) := by decide +kernel
theorem dX3_draw_92 : decode cX3_draw 92 = .ok (.putfield 116, 3) := by decide +kernel
theorem dX3_draw_95 : decode cX3_draw 95 = .ok (.iload 4, 2) := by decide +kernel
theorem dX3_draw_97 : decode cX3_draw 97 = .ok (.ireturn, 1) := by decide +kernel
set_option maxRecDepth 20000 in
theorem ggX3_setClass_X3_exposureAt : GoodIn wsX3_setClass wsX3_exposureAt := goodIn_r _ [7, 8, 23, 24, 25, 26, 27, 28, 29, 30, 31] (by decide +kernel) (by decide +kernel)
set_option maxRecDepth 20000 in
theorem gX3_setClass_X3_exposureAt : GoodIn wsX3_setClass (wsV RX3 105 RX3 yX3_exposureAt wsX3_exposureAt) := goodIn_app (goodIn_of _ (by decide +kernel)) ggX3_setClass_X3_exposureAt
set_option maxRecDepth 20000 in
theorem ggX3_setClass_X3_isClass : GoodIn wsX3_setClass wsX3_isClass := goodIn_r _ [11, 12, 13, 6, 14] (by decide +kernel) (by decide +kernel)
set_option maxRecDepth 20000 in
theorem gX3_setClass_X3_isClass : GoodIn wsX3_setClass (va_wsS RX3 48 yX3_isClass wsX3_isClass) := goodIn_app (goodIn_of _ (by decide +kernel)) ggX3_setClass_X3_isClass
theorem dX3_setClass_0 : decode cX3_setClass 0 = .ok (.aload_n 0, 1) := by decide +kernel
theorem dX3_setClass_1 : decode cX3_setClass 1 = .ok (.iload_n 1, 1) := by decide +kernel
theorem dX3_setClass_2 : decode cX3_setClass 2 = .ok (.invokevirtual 105, 3) := by decide +kernel
theorem dX3_setClass_5 : decode cX3_setClass 5 = .ok (.astore_n 3, 1) := by decide +kernel
theorem dX3_setClass_6 : decode cX3_setClass 6 = .ok (.aload_n 3, 1) := by decide +kernel
theorem dX3_setClass_7 : decode cX3_setClass 7 = .ok (.ifnull 10, 3) := by decide +kernel
theorem dX3_setClass_10 : decode cX3_setClass 10 = .ok (.iload_n 2, 1) := by decide +kernel
theorem dX3_setClass_11 : decode cX3_setClass 11 = .ok (.invokestatic 48, 3) := by decide +kernel
theorem dX3_setClass_14 : decode cX3_setClass 14 = .ok (.ifCond .ne 13, 3) := by decide +kernel
theorem dX3_setClass_17 : decode cX3_setClass 17 = .ok (.new 52, 3) := by decide +kernel
theorem dX3_setClass_20 : decode cX3_setClass 20 = .ok (.dup, 1) := by decide +kernel
theorem dX3_setClass_21 : decode cX3_setClass 21 = .ok (.ldc 121, 2) := by decide +kernel
theorem dX3_setClass_23 : decode cX3_setClass 23 = .ok (.invokespecial 56, 3) := by decide +kernel
theorem dX3_setClass_26 : decode cX3_setClass 26 = .ok (.athrow, 1) := by decide +kernel
theorem dX3_setClass_27 : decode cX3_setClass 27 = .ok (.aload_n 3, 1) := by decide +kernel
theorem dX3_setClass_28 : decode cX3_setClass 28 = .ok (.getfield 123, 3) := by decide +kernel
theorem dX3_setClass_31 : decode cX3_setClass 31 = .ok (.istore 4, 2) := by decide +kernel
theorem dX3_setClass_33 : decode cX3_setClass 33 = .ok (.aload_n 3, 1) := by decide +kernel
theorem dX3_setClass_34 : decode cX3_setClass 34 = .ok (.iload_n 2, 1) := by decide +kernel
theorem dX3_setClass_35 : decode cX3_setClass 35 = .ok (.putfield 123, 3) := by decide +kernel
theorem dX3_setClass_38 : decode cX3_setClass 38 = .ok (.iload 4, 2) := by decide +kernel
theorem dX3_setClass_40 : decode cX3_setClass 40 = .ok (.ireturn, 1) := by decide +kernel
set_option maxRecDepth 20000 in
theorem ggX3_guarantee_X3_exposureAt : GoodIn wsX3_guarantee wsX3_exposureAt := goodIn_r _ [9, 10, 29, 30, 31, 32, 33, 34, 35, 36, 37] (by decide +kernel) (by decide +kernel)
set_option maxRecDepth 20000 in
theorem gX3_guarantee_X3_exposureAt : GoodIn wsX3_guarantee (wsV RX3 105 RX3 yX3_exposureAt wsX3_exposureAt) := goodIn_app (goodIn_of _ (by decide +kernel)) ggX3_guarantee_X3_exposureAt
set_option maxRecDepth 20000 in
theorem ggX3_guarantee_X3_isClass : GoodIn wsX3_guarantee wsX3_isClass := goodIn_r _ [13, 14, 15, 8, 16] (by decide +kernel) (by decide +kernel)
set_option maxRecDepth 20000 in
theorem gX3_guarantee_X3_isClass : GoodIn wsX3_guarantee (va_wsS RX3 48 yX3_isClass wsX3_isClass) := goodIn_app (goodIn_of _ (by decide +kernel)) ggX3_guarantee_X3_isClass
set_option maxRecDepth 20000 in
theorem ggX3_guarantee_X3_isPart : GoodIn wsX3_guarantee wsX3_isPart := goodIn_r _ [19, 20, 14, 15, 8, 16] (by decide +kernel) (by decide +kernel)
set_option maxRecDepth 20000 in
theorem gX3_guarantee_X3_isPart : GoodIn wsX3_guarantee (va_wsS RX3 86 yX3_isPart wsX3_isPart) := goodIn_app (goodIn_of _ (by decide +kernel)) ggX3_guarantee_X3_isPart
theorem dX3_guarantee_0 : decode cX3_guarantee 0 = .ok (.aload_n 0, 1) := by decide +kernel
theorem dX3_guarantee_1 : decode cX3_guarantee 1 = .ok (.iload_n 1, 1) := by decide +kernel
theorem dX3_guarantee_2 : decode cX3_guarantee 2 = .ok (.invokevirtual 105, 3) := by decide +kernel
theorem dX3_guarantee_5 : decode cX3_guarantee 5 = .ok (.astore 4, 2) := by decide +kernel
theorem dX3_guarantee_7 : decode cX3_guarantee 7 = .ok (.aload 4, 2) := by decide +kernel
theorem dX3_guarantee_9 : decode cX3_guarantee 9 = .ok (.ifnull 10, 3) := by decide +kernel
theorem dX3_guarantee_12 : decode cX3_guarantee 12 = .ok (.iload_n 2, 1) := by decide +kernel
theorem dX3_guarantee_13 : decode cX3_guarantee 13 = .ok (.invokestatic 48, 3) := by decide +kernel
theorem dX3_guarantee_16 : decode cX3_guarantee 16 = .ok (.ifCond .ne 13, 3) := by decide +kernel
theorem dX3_guarantee_19 : decode cX3_guarantee 19 = .ok (.new 52, 3) := by decide +kernel
theorem dX3_guarantee_22 : decode cX3_guarantee 22 = .ok (.dup, 1) := by decide +kernel
theorem dX3_guarantee_23 : decode cX3_guarantee 23 = .ok (.ldc 121, 2) := by decide +kernel
theorem dX3_guarantee_25 : decode cX3_guarantee 25 = .ok (.invokespecial 56, 3) := by decide +kernel
theorem dX3_guarantee_28 : decode cX3_guarantee 28 = .ok (.athrow, 1) := by decide +kernel
theorem dX3_guarantee_29 : decode cX3_guarantee 29 = .ok (.iload_n 3, 1) := by decide +kernel
theorem dX3_guarantee_30 : decode cX3_guarantee 30 = .ok (.invokestatic 86, 3) := by decide +kernel
theorem dX3_guarantee_33 : decode cX3_guarantee 33 = .ok (.ifCond .ne 13, 3) := by decide +kernel
theorem dX3_guarantee_36 : decode cX3_guarantee 36 = .ok (.new 63, 3) := by decide +kernel
theorem dX3_guarantee_39 : decode cX3_guarantee 39 = .ok (.dup, 1) := by decide +kernel
theorem dX3_guarantee_40 : decode cX3_guarantee 40 = .ok (.ldc 79, 2) := by decide +kernel
theorem dX3_guarantee_42 : decode cX3_guarantee 42 = .ok (.invokespecial 67, 3) := by decide +kernel
theorem dX3_guarantee_45 : decode cX3_guarantee 45 = .ok (.athrow, 1) := by decide +kernel
theorem dX3_guarantee_46 : decode cX3_guarantee 46 = .ok (.aload 4, 2) := by decide +kernel
theorem dX3_guarantee_48 : decode cX3_guarantee 48 = .ok (.getfield 126, 3) := by decide +kernel
theorem dX3_guarantee_51 : decode cX3_guarantee 51 = .ok (.istore 5, 2) := by decide +kernel
theorem dX3_guarantee_53 : decode cX3_guarantee 53 = .ok (.aload 4, 2) := by decide +kernel
theorem dX3_guarantee_55 : decode cX3_guarantee 55 = .ok (.iload_n 2, 1) := by decide +kernel
theorem dX3_guarantee_56 : decode cX3_guarantee 56 = .ok (.putfield 129, 3) := by decide +kernel
theorem dX3_guarantee_59 : decode cX3_guarantee 59 = .ok (.aload 4, 2) := by decide +kernel
theorem dX3_guarantee_61 : decode cX3_guarantee 61 = .ok (.iload_n 3, 1) := by decide +kernel
theorem dX3_guarantee_62 : decode cX3_guarantee 62 = .ok (.putfield 126, 3) := by decide +kernel
theorem dX3_guarantee_65 : decode cX3_guarantee 65 = .ok (.iload 5, 2) := by decide +kernel
theorem dX3_guarantee_67 : decode cX3_guarantee 67 = .ok (.ireturn, 1) := by decide +kernel
theorem dX3_exposures_0 : decode cX3_exposures 0 = .ok (.aload_n 0, 1) := by decide +kernel
theorem dX3_exposures_1 : decode cX3_exposures 1 = .ok (.getfield 35, 3) := by decide +kernel
theorem dX3_exposures_4 : decode cX3_exposures 4 = .ok (.ireturn, 1) := by decide +kernel
set_option maxRecDepth 20000 in
theorem ggX3_amount_X3_exposureAt : GoodIn wsX3_amount wsX3_exposureAt := goodIn_r _ [7, 8, 18, 19, 20, 21, 22, 23, 24, 25, 26] (by decide +kernel) (by decide +kernel)
set_option maxRecDepth 20000 in
theorem gX3_amount_X3_exposureAt : GoodIn wsX3_amount (wsV RX3 105 RX3 yX3_exposureAt wsX3_exposureAt) := goodIn_app (goodIn_of _ (by decide +kernel)) ggX3_amount_X3_exposureAt
set_option maxRecDepth 20000 in
theorem ggX3_amount_X0_amountNow : GoodIn wsX3_amount wsX0_amountNow := goodIn_r _ [12, 13, 14, 15, 6, 16, 17, 27, 28, 29, 30, 31, 32, 33, 34] (by decide +kernel) (by decide +kernel)
set_option maxRecDepth 20000 in
theorem gX3_amount_X0_amountNow_n132 : GoodIn wsX3_amount (wsX0_amountNow) := ggX3_amount_X0_amountNow
theorem dX3_amount_0 : decode cX3_amount 0 = .ok (.aload_n 0, 1) := by decide +kernel
theorem dX3_amount_1 : decode cX3_amount 1 = .ok (.iload_n 1, 1) := by decide +kernel
theorem dX3_amount_2 : decode cX3_amount 2 = .ok (.invokevirtual 105, 3) := by decide +kernel
theorem dX3_amount_5 : decode cX3_amount 5 = .ok (.astore_n 2, 1) := by decide +kernel
theorem dX3_amount_6 : decode cX3_amount 6 = .ok (.aload_n 2, 1) := by decide +kernel
theorem dX3_amount_7 : decode cX3_amount 7 = .ok (.ifnonnull 13, 3) := by decide +kernel
theorem dX3_amount_10 : decode cX3_amount 10 = .ok (.new 52, 3) := by decide +kernel
theorem dX3_amount_13 : decode cX3_amount 13 = .ok (.dup, 1) := by decide +kernel
theorem dX3_amount_14 : decode cX3_amount 14 = .ok (.ldc 109, 2) := by decide +kernel
theorem dX3_amount_16 : decode cX3_amount 16 = .ok (.invokespecial 56, 3) := by decide +kernel
theorem dX3_amount_19 : decode cX3_amount 19 = .ok (.athrow, 1) := by decide +kernel
theorem dX3_amount_20 : decode cX3_amount 20 = .ok (.aload_n 2, 1) := by decide +kernel
theorem dX3_amount_21 : decode cX3_amount 21 = .ok (.invokevirtual 132, 3) := by decide +kernel
theorem dX3_amount_24 : decode cX3_amount 24 = .ok (.ireturn, 1) := by decide +kernel
set_option maxRecDepth 20000 in
theorem ggX3_addPiece_X3_isPieceSum : GoodIn wsX3_addPiece wsX3_isPieceSum := goodIn_r _ [13, 14, 15, 16, 12, 17] (by decide +kernel) (by decide +kernel)
set_option maxRecDepth 20000 in
theorem gX3_addPiece_X3_isPieceSum : GoodIn wsX3_addPiece (va_wsS RX3 136 yX3_isPieceSum wsX3_isPieceSum) := goodIn_app (goodIn_of _ (by decide +kernel)) ggX3_addPiece_X3_isPieceSum
set_option maxRecDepth 20000 in
theorem ggX3_addPiece_X3_isWithin : GoodIn wsX3_addPiece wsX3_isWithin := goodIn_r _ [17] (by decide +kernel) (by decide +kernel)
set_option maxRecDepth 20000 in
theorem gX3_addPiece_X3_isWithin : GoodIn wsX3_addPiece (va_wsS RX3 59 yX3_isWithin wsX3_isWithin) := goodIn_app (goodIn_of _ (by decide +kernel)) ggX3_addPiece_X3_isWithin
set_option maxRecDepth 20000 in
theorem ggX3_addPiece_X3_isCurrency : GoodIn wsX3_addPiece wsX3_isCurrency := goodIn_r _ [20, 15, 16, 12, 17] (by decide +kernel) (by decide +kernel)
set_option maxRecDepth 20000 in
theorem gX3_addPiece_X3_isCurrency : GoodIn wsX3_addPiece (va_wsS RX3 89 yX3_isCurrency wsX3_isCurrency) := goodIn_app (goodIn_of _ (by decide +kernel)) ggX3_addPiece_X3_isCurrency
set_option maxRecDepth 20000 in
theorem ggX3_addPiece_X3_isDays : GoodIn wsX3_addPiece wsX3_isDays := goodIn_r _ [23, 15, 16, 12, 17] (by decide +kernel) (by decide +kernel)
set_option maxRecDepth 20000 in
theorem gX3_addPiece_X3_isDays : GoodIn wsX3_addPiece (va_wsS RX3 92 yX3_isDays wsX3_isDays) := goodIn_app (goodIn_of _ (by decide +kernel)) ggX3_addPiece_X3_isDays
set_option maxRecDepth 20000 in
theorem ggX3_addPiece_X3_isUses : GoodIn wsX3_addPiece wsX3_isUses := goodIn_r _ [26, 15, 16, 12, 17] (by decide +kernel) (by decide +kernel)
set_option maxRecDepth 20000 in
theorem gX3_addPiece_X3_isUses : GoodIn wsX3_addPiece (va_wsS RX3 139 yX3_isUses wsX3_isUses) := goodIn_app (goodIn_of _ (by decide +kernel)) ggX3_addPiece_X3_isUses
set_option maxRecDepth 20000 in
theorem ggX3_addPiece_X1_init : GoodIn wsX3_addPiece wsX1_init := goodIn_r _ [28, 29, 30, 31, 32, 33, 34, 35, 36, 46, 47, 48, 49, 50] (by decide +kernel) (by decide +kernel)
set_option maxRecDepth 20000 in
theorem gX3_addPiece_X1_init_n146 : GoodIn wsX3_addPiece (wsX1_init) := ggX3_addPiece_X1_init
theorem dX3_addPiece_0 : decode cX3_addPiece 0 = .ok (.iload_n 1, 1) := by decide +kernel
theorem dX3_addPiece_1 : decode cX3_addPiece 1 = .ok (.invokestatic 136, 3) := by decide +kernel
theorem dX3_addPiece_4 : decode cX3_addPiece 4 = .ok (.ifCond .eq 36, 3) := by decide +kernel
theorem dX3_addPiece_7 : decode cX3_addPiece 7 = .ok (.iload_n 2, 1) := by decide +kernel
theorem dX3_addPiece_8 : decode cX3_addPiece 8 = .ok (.iconst 0, 1) := by decide +kernel
theorem dX3_addPiece_9 : decode cX3_addPiece 9 = .ok (.bipush 100, 2) := by decide +kernel
theorem dX3_addPiece_11 : decode cX3_addPiece 11 = .ok (.invokestatic 59, 3) := by decide +kernel
theorem dX3_addPiece_14 : decode cX3_addPiece 14 = .ok (.ifCond .eq 26, 3) := by decide +kernel
theorem dX3_addPiece_17 : decode cX3_addPiece 17 = .ok (.iload_n 3, 1) := by decide +kernel
theorem dX3_addPiece_18 : decode cX3_addPiece 18 = .ok (.invokestatic 89, 3) := by decide +kernel
theorem dX3_addPiece_21 : decode cX3_addPiece 21 = .ok (.ifCond .eq 19, 3) := by decide +kernel
theorem dX3_addPiece_24 : decode cX3_addPiece 24 = .ok (.iload 4, 2) := by decide +kernel
theorem dX3_addPiece_26 : decode cX3_addPiece 26 = .ok (.invokestatic 92, 3) := by decide +kernel
theorem dX3_addPiece_29 : decode cX3_addPiece 29 = .ok (.ifCond .eq 11, 3) := by decide +kernel
theorem dX3_addPiece_32 : decode cX3_addPiece 32 = .ok (.iload 5, 2) := by decide +kernel
theorem dX3_addPiece_34 : decode cX3_addPiece 34 = .ok (.invokestatic 139, 3) := by decide +kernel
theorem dX3_addPiece_37 : decode cX3_addPiece 37 = .ok (.ifCond .ne 13, 3) := by decide +kernel
theorem dX3_addPiece_40 : decode cX3_addPiece 40 = .ok (.new 63, 3) := by decide +kernel
theorem dX3_addPiece_43 : decode cX3_addPiece 43 = .ok (.dup, 1) := by decide +kernel
theorem dX3_addPiece_44 : decode cX3_addPiece 44 = .ok (.ldc 142, 2) := by decide +kernel
theorem dX3_addPiece_46 : decode cX3_addPiece 46 = .ok (.invokespecial 67, 3) := by decide +kernel
theorem dX3_addPiece_49 : decode cX3_addPiece 49 = .ok (.athrow, 1) := by decide +kernel
theorem dX3_addPiece_50 : decode cX3_addPiece 50 = .ok (.aload_n 0, 1) := by decide +kernel
theorem dX3_addPiece_51 : decode cX3_addPiece 51 = .ok (.getfield 39, 3) := by decide +kernel
theorem dX3_addPiece_54 : decode cX3_addPiece 54 = .ok (.istore 6, 2) := by decide +kernel
theorem dX3_addPiece_56 : decode cX3_addPiece 56 = .ok (.iload 6, 2) := by decide +kernel
theorem dX3_addPiece_58 : decode cX3_addPiece 58 = .ok (.ifCond .lt 13, 3) := by decide +kernel
theorem dX3_addPiece_61 : decode cX3_addPiece 61 = .ok (.iload 6, 2) := by decide +kernel
theorem dX3_addPiece_63 : decode cX3_addPiece 63 = .ok (.aload_n 0, 1) := by decide +kernel
theorem dX3_addPiece_64 : decode cX3_addPiece 64 = .ok (.getfield 24, 3) := by decide +kernel
theorem dX3_addPiece_67 : decode cX3_addPiece 67 = .ok (.arraylength, 1) := by decide +kernel
theorem dX3_addPiece_68 : decode cX3_addPiece 68 = .ok (.if_icmp .lt 13, 3) := by decide +kernel
theorem dX3_addPiece_71 : decode cX3_addPiece 71 = .ok (.new 97, 3) := by decide +kernel
theorem dX3_addPiece_74 : decode cX3_addPiece 74 = .ok (.dup, 1) := by decide +kernel
theorem dX3_addPiece_75 : decode cX3_addPiece 75 = .ok (.ldc 144, 2) := by decide +kernel
theorem dX3_addPiece_77 : decode cX3_addPiece 77 = .ok (.invokespecial 101, 3) := by decide +kernel
theorem dX3_addPiece_80 : decode cX3_addPiece 80 = .ok (.athrow, 1) := by decide +kernel
theorem dX3_addPiece_81 : decode cX3_addPiece 81 = .ok (.aload_n 0, 1) := by decide +kernel
theorem dX3_addPiece_82 : decode cX3_addPiece 82 = .ok (.getfield 24, 3) := by decide +kernel
theorem dX3_addPiece_85 : decode cX3_addPiece 85 = .ok (.iload 6, 2) := by decide +kernel
theorem dX3_addPiece_87 : decode cX3_addPiece 87 = .ok (.new 22, 3) := by decide +kernel
theorem dX3_addPiece_90 : decode cX3_addPiece 90 = .ok (.dup, 1) := by decide +kernel
theorem dX3_addPiece_91 : decode cX3_addPiece 91 = .ok (.iload_n 1, 1) := by decide +kernel
theorem dX3_addPiece_92 : decode cX3_addPiece 92 = .ok (.iload_n 2, 1) := by decide +kernel
theorem dX3_addPiece_93 : decode cX3_addPiece 93 = .ok (.iload_n 3, 1) := by decide +kernel
theorem dX3_addPiece_94 : decode cX3_addPiece 94 = .ok (.iload 4, 2) := by decide +kernel
theorem dX3_addPiece_96 : decode cX3_addPiece 96 = .ok (.iload 5, 2) := by decide +kernel
theorem dX3_addPiece_98 : decode cX3_addPiece 98 = .ok (.invokespecial 146, 3) := by decide +kernel
theorem dX3_addPiece_101 : decode cX3_addPiece 101 = .ok (.aastore, 1) := by decide +kernel
theorem dX3_addPiece_102 : decode cX3_addPiece 102 = .ok (.aload_n 0, 1) := by decide +kernel
theorem dX3_addPiece_103 : decode cX3_addPiece 103 = .ok (.iload 6, 2) := by decide +kernel
theorem dX3_addPiece_105 : decode cX3_addPiece 105 = .ok (.iconst 1, 1) := by decide +kernel
theorem dX3_addPiece_106 : decode cX3_addPiece 106 = .ok (.iadd, 1) := by decide +kernel
theorem dX3_addPiece_107 : decode cX3_addPiece 107 = .ok (.putfield 39, 3) := by decide +kernel
theorem dX3_addPiece_110 : decode cX3_addPiece 110 = .ok (.iload 6, 2) := by decide +kernel
theorem dX3_addPiece_112 : decode cX3_addPiece 112 = .ok (.ireturn, 1) := by decide +kernel
set_option maxRecDepth 20000 in
theorem ggX3_setPiece_X3_pieceAt : GoodIn wsX3_setPiece wsX3_pieceAt := goodIn_r _ [9, 10, 26, 27, 28, 29, 30, 31, 32, 33, 34] (by decide +kernel) (by decide +kernel)
set_option maxRecDepth 20000 in
theorem gX3_setPiece_X3_pieceAt : GoodIn wsX3_setPiece (wsV RX3 149 RX3 yX3_pieceAt wsX3_pieceAt) := goodIn_app (goodIn_of _ (by decide +kernel)) ggX3_setPiece_X3_pieceAt
set_option maxRecDepth 20000 in
theorem ggX3_setPiece_X3_isPieceSum : GoodIn wsX3_setPiece wsX3_isPieceSum := goodIn_r _ [13, 14, 15, 16, 8, 17] (by decide +kernel) (by decide +kernel)
set_option maxRecDepth 20000 in
theorem gX3_setPiece_X3_isPieceSum : GoodIn wsX3_setPiece (va_wsS RX3 136 yX3_isPieceSum wsX3_isPieceSum) := goodIn_app (goodIn_of _ (by decide +kernel)) ggX3_setPiece_X3_isPieceSum
set_option maxRecDepth 20000 in
theorem ggX3_setPiece_X3_isUses : GoodIn wsX3_setPiece wsX3_isUses := goodIn_r _ [20, 15, 16, 8, 17] (by decide +kernel) (by decide +kernel)
set_option maxRecDepth 20000 in
theorem gX3_setPiece_X3_isUses : GoodIn wsX3_setPiece (va_wsS RX3 139 yX3_isUses wsX3_isUses) := goodIn_app (goodIn_of _ (by decide +kernel)) ggX3_setPiece_X3_isUses
theorem dX3_setPiece_0 : decode cX3_setPiece 0 = .ok (.aload_n 0, 1) := by decide +kernel
theorem dX3_setPiece_1 : decode cX3_setPiece 1 = .ok (.iload_n 1, 1) := by decide +kernel
theorem dX3_setPiece_2 : decode cX3_setPiece 2 = .ok (.invokevirtual 149, 3) := by decide +kernel
theorem dX3_setPiece_5 : decode cX3_setPiece 5 = .ok (.astore 4, 2) := by decide +kernel
theorem dX3_setPiece_7 : decode cX3_setPiece 7 = .ok (.aload 4, 2) := by decide +kernel
theorem dX3_setPiece_9 : decode cX3_setPiece 9 = .ok (.ifnonnull 13, 3) := by decide +kernel
theorem dX3_setPiece_12 : decode cX3_setPiece 12 = .ok (.new 52, 3) := by decide +kernel
theorem dX3_setPiece_15 : decode cX3_setPiece 15 = .ok (.dup, 1) := by decide +kernel
theorem dX3_setPiece_16 : decode cX3_setPiece 16 = .ok (.ldc 153, 2) := by decide +kernel
theorem dX3_setPiece_18 : decode cX3_setPiece 18 = .ok (.invokespecial 56, 3) := by decide +kernel
theorem dX3_setPiece_21 : decode cX3_setPiece 21 = .ok (.athrow, 1) := by decide +kernel
theorem dX3_setPiece_22 : decode cX3_setPiece 22 = .ok (.iload_n 2, 1) := by decide +kernel
theorem dX3_setPiece_23 : decode cX3_setPiece 23 = .ok (.invokestatic 136, 3) := by decide +kernel
theorem dX3_setPiece_26 : decode cX3_setPiece 26 = .ok (.ifCond .eq 10, 3) := by decide +kernel
theorem dX3_setPiece_29 : decode cX3_setPiece 29 = .ok (.iload_n 3, 1) := by decide +kernel
theorem dX3_setPiece_30 : decode cX3_setPiece 30 = .ok (.invokestatic 139, 3) := by decide +kernel
theorem dX3_setPiece_33 : decode cX3_setPiece 33 = .ok (.ifCond .ne 13, 3) := by decide +kernel
theorem dX3_setPiece_36 : decode cX3_setPiece 36 = .ok (.new 63, 3) := by decide +kernel
theorem dX3_setPiece_39 : decode cX3_setPiece 39 = .ok (.dup, 1) := by decide +kernel
theorem dX3_setPiece_40 : decode cX3_setPiece 40 = .ok (.ldc 155, 2) := by decide +kernel
theorem dX3_setPiece_42 : decode cX3_setPiece 42 = .ok (.invokespecial 67, 3) := by decide +kernel
theorem dX3_setPiece_45 : decode cX3_setPiece 45 = .ok (.athrow, 1) := by decide +kernel
theorem dX3_setPiece_46 : decode cX3_setPiece 46 = .ok (.aload 4, 2) := by decide +kernel
theorem dX3_setPiece_48 : decode cX3_setPiece 48 = .ok (.getfield 157, 3) := by decide +kernel
theorem dX3_setPiece_51 : decode cX3_setPiece 51 = .ok (.istore 5, 2) := by decide +kernel
theorem dX3_setPiece_53 : decode cX3_setPiece 53 = .ok (.aload 4, 2) := by decide +kernel
theorem dX3_setPiece_55 : decode cX3_setPiece 55 = .ok (.iload_n 2, 1) := by decide +kernel
theorem dX3_setPiece_56 : decode cX3_setPiece 56 = .ok (.putfield 157, 3) := by decide +kernel
theorem dX3_setPiece_59 : decode cX3_setPiece 59 = .ok (.aload 4, 2) := by decide +kernel
theorem dX3_setPiece_61 : decode cX3_setPiece 61 = .ok (.iload_n 3, 1) := by decide +kernel
theorem dX3_setPiece_62 : decode cX3_setPiece 62 = .ok (.putfield 160, 3) := by decide +kernel
theorem dX3_setPiece_65 : decode cX3_setPiece 65 = .ok (.iload 5, 2) := by decide +kernel
theorem dX3_setPiece_67 : decode cX3_setPiece 67 = .ok (.ireturn, 1) := by decide +kernel
theorem dX3_pieces_0 : decode cX3_pieces 0 = .ok (.aload_n 0, 1) := by decide +kernel
theorem dX3_pieces_1 : decode cX3_pieces 1 = .ok (.getfield 39, 3) := by decide +kernel
theorem dX3_pieces_4 : decode cX3_pieces 4 = .ok (.ireturn, 1) := by decide +kernel
set_option maxRecDepth 20000 in
theorem ggX3_value_X3_pieceAt : GoodIn wsX3_value wsX3_pieceAt := goodIn_r _ [7, 8, 25, 26, 27, 28, 29, 30, 31, 32, 33] (by decide +kernel) (by decide +kernel)
set_option maxRecDepth 20000 in
theorem gX3_value_X3_pieceAt : GoodIn wsX3_value (wsV RX3 149 RX3 yX3_pieceAt wsX3_pieceAt) := goodIn_app (goodIn_of _ (by decide +kernel)) ggX3_value_X3_pieceAt
set_option maxRecDepth 20000 in
theorem ggX3_value_X3_exposureAt : GoodIn wsX3_value wsX3_exposureAt := goodIn_r _ [12, 13, 25, 26, 27, 28, 29, 30, 31, 32, 33] (by decide +kernel) (by decide +kernel)
set_option maxRecDepth 20000 in
theorem gX3_value_X3_exposureAt : GoodIn wsX3_value (wsV RX3 105 RX3 yX3_exposureAt wsX3_exposureAt) := goodIn_app (goodIn_of _ (by decide +kernel)) ggX3_value_X3_exposureAt
set_option maxRecDepth 20000 in
theorem ggX3_value_X1_valueFor : GoodIn wsX3_value wsX1_valueFor := goodIn_r _ [17, 18, 19, 20, 21, 22, 6, 23, 24, 34, 35, 36, 37, 38, 39, 40, 41, 42, 43, 44, 45, 46] (by decide +kernel) (by decide +kernel)
set_option maxRecDepth 20000 in
theorem gX3_value_X1_valueFor_n165 : GoodIn wsX3_value (wsX1_valueFor) := ggX3_value_X1_valueFor
theorem dX3_value_0 : decode cX3_value 0 = .ok (.aload_n 0, 1) := by decide +kernel
theorem dX3_value_1 : decode cX3_value 1 = .ok (.iload_n 1, 1) := by decide +kernel
theorem dX3_value_2 : decode cX3_value 2 = .ok (.invokevirtual 149, 3) := by decide +kernel
theorem dX3_value_5 : decode cX3_value 5 = .ok (.astore_n 3, 1) := by decide +kernel
theorem dX3_value_6 : decode cX3_value 6 = .ok (.aload_n 0, 1) := by decide +kernel
theorem dX3_value_7 : decode cX3_value 7 = .ok (.iload_n 2, 1) := by decide +kernel
theorem dX3_value_8 : decode cX3_value 8 = .ok (.invokevirtual 105, 3) := by decide +kernel
theorem dX3_value_11 : decode cX3_value 11 = .ok (.astore 4, 2) := by decide +kernel
theorem dX3_value_13 : decode cX3_value 13 = .ok (.aload_n 3, 1) := by decide +kernel
theorem dX3_value_14 : decode cX3_value 14 = .ok (.ifnull 8, 3) := by decide +kernel
theorem dX3_value_17 : decode cX3_value 17 = .ok (.aload 4, 2) := by decide +kernel
theorem dX3_value_19 : decode cX3_value 19 = .ok (.ifnonnull 13, 3) := by decide +kernel
theorem dX3_value_22 : decode cX3_value 22 = .ok (.new 52, 3) := by decide +kernel
theorem dX3_value_25 : decode cX3_value 25 = .ok (.dup, 1) := by decide +kernel
theorem dX3_value_26 : decode cX3_value 26 = .ok (.ldc 163, 2) := by decide +kernel
theorem dX3_value_28 : decode cX3_value 28 = .ok (.invokespecial 56, 3) := by decide +kernel
theorem dX3_value_31 : decode cX3_value 31 = .ok (.athrow, 1) := by decide +kernel
theorem dX3_value_32 : decode cX3_value 32 = .ok (.aload_n 3, 1) := by decide +kernel
theorem dX3_value_33 : decode cX3_value 33 = .ok (.aload 4, 2) := by decide +kernel
theorem dX3_value_35 : decode cX3_value 35 = .ok (.invokevirtual 165, 3) := by decide +kernel
theorem dX3_value_38 : decode cX3_value 38 = .ok (.ireturn, 1) := by decide +kernel
set_option maxRecDepth 20000 in
theorem ggX3_givenTo_X3_pieceAt : GoodIn wsX3_givenTo wsX3_pieceAt := goodIn_r _ [8, 9, 131, 132, 133, 134, 135, 136, 137, 138, 139] (by decide +kernel) (by decide +kernel)
set_option maxRecDepth 20000 in
theorem gX3_givenTo_X3_pieceAt : GoodIn wsX3_givenTo (wsV RX3 149 RX3 yX3_pieceAt wsX3_pieceAt) := goodIn_app (goodIn_of _ (by decide +kernel)) ggX3_givenTo_X3_pieceAt
set_option maxRecDepth 20000 in
theorem ggX3_givenTo_X3_findBest : GoodIn wsX3_givenTo wsX3_findBest := goodIn_r _ [13, 3, 14, 15, 16, 7, 17, 18, 19, 20, 21, 22, 23, 24, 25, 26, 27, 28, 29, 30, 31, 32, 33, 34, 35, 36, 37, 38, 4, 5, 6, 8, 9, 39, 40, 41, 42, 43, 44, 45, 46, 47, 48, 49, 50, 51, 52, 53, 54, 55, 56, 57, 58, 59, 60, 61, 62, 63, 64, 65, 66, 67, 68, 69, 70, 71, 72, 73, 74, 75, 76, 77, 78, 79, 80, 81, 82, 83, 84, 85, 86, 87, 88, 89, 90, 91, 92, 93, 94, 95, 96, 97, 98, 99, 100, 101, 102, 103, 104, 105, 106, 107, 108, 109, 110, 111, 112, 113, 114, 115, 116, 117, 118, 119, 131, 132, 133, 134, 135, 136, 137, 138, 139, 140, 141, 142, 143, 144, 145, 146, 147, 148, 149, 150, 151, 152, 153, 154, 155, 156, 157, 158, 159] (by decide +kernel) (by decide +kernel)
set_option maxRecDepth 20000 in
theorem gX3_givenTo_X3_findBest : GoodIn wsX3_givenTo (wsV RX3 169 RX3 yX3_findBest wsX3_findBest) := goodIn_app (goodIn_of _ (by decide +kernel)) ggX3_givenTo_X3_findBest
set_option maxRecDepth 20000 in
theorem ggX3_givenTo_X2_takerOf : GoodIn wsX3_givenTo wsX2_takerOf := goodIn_r _ [122, 123, 124, 125, 21, 126, 127, 128, 129, 130, 29, 116, 117, 118, 119, 89, 93, 94, 95, 140, 141, 142, 143, 144, 145, 146] (by decide +kernel) (by decide +kernel)
set_option maxRecDepth 20000 in
theorem gX3_givenTo_X2_takerOf_n172 : GoodIn wsX3_givenTo (wsX2_takerOf) := ggX3_givenTo_X2_takerOf
theorem dX3_givenTo_0 : decode cX3_givenTo 0 = .ok (.aload_n 0, 1) := by decide +kernel
theorem dX3_givenTo_1 : decode cX3_givenTo 1 = .ok (.iload_n 1, 1) := by decide +kernel
theorem dX3_givenTo_2 : decode cX3_givenTo 2 = .ok (.invokevirtual 149, 3) := by decide +kernel
theorem dX3_givenTo_5 : decode cX3_givenTo 5 = .ok (.ifnonnull 13, 3) := by decide +kernel
theorem dX3_givenTo_8 : decode cX3_givenTo 8 = .ok (.new 52, 3) := by decide +kernel
theorem dX3_givenTo_11 : decode cX3_givenTo 11 = .ok (.dup, 1) := by decide +kernel
theorem dX3_givenTo_12 : decode cX3_givenTo 12 = .ok (.ldc 153, 2) := by decide +kernel
theorem dX3_givenTo_14 : decode cX3_givenTo 14 = .ok (.invokespecial 56, 3) := by decide +kernel
theorem dX3_givenTo_17 : decode cX3_givenTo 17 = .ok (.athrow, 1) := by decide +kernel
theorem dX3_givenTo_18 : decode cX3_givenTo 18 = .ok (.aload_n 0, 1) := by decide +kernel
theorem dX3_givenTo_19 : decode cX3_givenTo 19 = .ok (.invokevirtual 169, 3) := by decide +kernel
theorem dX3_givenTo_22 : decode cX3_givenTo 22 = .ok (.aload_n 0, 1) := by decide +kernel
theorem dX3_givenTo_23 : decode cX3_givenTo 23 = .ok (.getfield 31, 3) := by decide +kernel
theorem dX3_givenTo_26 : decode cX3_givenTo 26 = .ok (.iload_n 1, 1) := by decide +kernel
theorem dX3_givenTo_27 : decode cX3_givenTo 27 = .ok (.invokevirtual 172, 3) := by decide +kernel
theorem dX3_givenTo_30 : decode cX3_givenTo 30 = .ok (.ireturn, 1) := by decide +kernel
set_option maxRecDepth 20000 in
theorem ggX3_bare_X3_exposureAt : GoodIn wsX3_bare wsX3_exposureAt := goodIn_r _ [8, 9, 135, 136, 137, 138, 139, 140, 141, 142, 143] (by decide +kernel) (by decide +kernel)
set_option maxRecDepth 20000 in
theorem gX3_bare_X3_exposureAt : GoodIn wsX3_bare (wsV RX3 105 RX3 yX3_exposureAt wsX3_exposureAt) := goodIn_app (goodIn_of _ (by decide +kernel)) ggX3_bare_X3_exposureAt
set_option maxRecDepth 20000 in
theorem ggX3_bare_X3_findBest : GoodIn wsX3_bare wsX3_findBest := goodIn_r _ [13, 3, 14, 15, 16, 7, 17, 18, 19, 20, 21, 22, 23, 24, 25, 26, 27, 28, 29, 4, 5, 6, 8, 9, 30, 31, 32, 33, 34, 35, 36, 37, 38, 39, 40, 41, 42, 43, 44, 45, 46, 47, 48, 49, 50, 51, 52, 53, 54, 55, 56, 57, 58, 59, 60, 61, 62, 63, 64, 65, 66, 67, 68, 69, 70, 71, 72, 73, 74, 75, 76, 77, 78, 79, 80, 81, 82, 83, 84, 85, 86, 87, 88, 89, 90, 91, 92, 93, 94, 95, 96, 97, 98, 99, 100, 101, 102, 103, 104, 105, 106, 107, 108, 109, 110, 111, 112, 113, 114, 115, 116, 117, 118, 119, 135, 136, 137, 138, 139, 140, 141, 142, 143, 144, 145, 146, 147, 148, 149, 150, 151, 152, 153, 154, 155, 156, 157, 158, 159, 160, 161, 162, 163] (by decide +kernel) (by decide +kernel)
set_option maxRecDepth 20000 in
theorem gX3_bare_X3_findBest : GoodIn wsX3_bare (wsV RX3 169 RX3 yX3_findBest wsX3_findBest) := goodIn_app (goodIn_of _ (by decide +kernel)) ggX3_bare_X3_findBest
set_option maxRecDepth 20000 in
theorem ggX3_bare_X2_givenSet : GoodIn wsX3_bare wsX2_givenSet := goodIn_r _ [122, 29, 123, 124, 125, 21, 126, 127, 128, 129, 130, 131, 132, 133, 134, 116, 117, 118, 119, 89, 93, 94, 95, 144, 145, 146, 147, 148, 149, 150] (by decide +kernel) (by decide +kernel)
set_option maxRecDepth 20000 in
theorem gX3_bare_X2_givenSet_n176 : GoodIn wsX3_bare (wsX2_givenSet) := ggX3_bare_X2_givenSet
set_option maxRecDepth 20000 in
theorem ggX3_bare_X3_bareWith : GoodIn wsX3_bare wsX3_bareWith := goodIn_r _ [51, 19, 52, 53, 26, 54, 55, 56, 57, 58, 59, 60, 61, 7, 62, 63, 34, 35, 36, 37, 38, 39, 40, 41, 64, 65, 66, 67, 68, 69, 70, 71, 135, 136, 137, 138, 139, 140, 141, 142, 143, 156, 157, 158, 159, 160, 161, 162, 163, 151, 152, 153, 154, 155] (by decide +kernel) (by decide +kernel)
set_option maxRecDepth 20000 in
theorem gX3_bare_X3_bareWith : GoodIn wsX3_bare (wsV RX3 179 RX3 yX3_bareWith wsX3_bareWith) := goodIn_app (goodIn_of _ (by decide +kernel)) ggX3_bare_X3_bareWith
theorem dX3_bare_0 : decode cX3_bare 0 = .ok (.aload_n 0, 1) := by decide +kernel
theorem dX3_bare_1 : decode cX3_bare 1 = .ok (.iload_n 1, 1) := by decide +kernel
theorem dX3_bare_2 : decode cX3_bare 2 = .ok (.invokevirtual 105, 3) := by decide +kernel
theorem dX3_bare_5 : decode cX3_bare 5 = .ok (.astore_n 2, 1) := by decide +kernel
theorem dX3_bare_6 : decode cX3_bare 6 = .ok (.aload_n 2, 1) := by decide +kernel
theorem dX3_bare_7 : decode cX3_bare 7 = .ok (.ifnonnull 13, 3) := by decide +kernel
theorem dX3_bare_10 : decode cX3_bare 10 = .ok (.new 52, 3) := by decide +kernel
theorem dX3_bare_13 : decode cX3_bare 13 = .ok (.dup, 1) := by decide +kernel
theorem dX3_bare_14 : decode cX3_bare 14 = .ok (.ldc 109, 2) := by decide +kernel
theorem dX3_bare_16 : decode cX3_bare 16 = .ok (.invokespecial 56, 3) := by decide +kernel
theorem dX3_bare_19 : decode cX3_bare 19 = .ok (.athrow, 1) := by decide +kernel
theorem dX3_bare_20 : decode cX3_bare 20 = .ok (.aload_n 0, 1) := by decide +kernel
theorem dX3_bare_21 : decode cX3_bare 21 = .ok (.invokevirtual 169, 3) := by decide +kernel
theorem dX3_bare_24 : decode cX3_bare 24 = .ok (.aload_n 0, 1) := by decide +kernel
theorem dX3_bare_25 : decode cX3_bare 25 = .ok (.aload_n 2, 1) := by decide +kernel
theorem dX3_bare_26 : decode cX3_bare 26 = .ok (.aload_n 0, 1) := by decide +kernel
theorem dX3_bare_27 : decode cX3_bare 27 = .ok (.getfield 31, 3) := by decide +kernel
theorem dX3_bare_30 : decode cX3_bare 30 = .ok (.iload_n 1, 1) := by decide +kernel
theorem dX3_bare_31 : decode cX3_bare 31 = .ok (.invokevirtual 176, 3) := by decide +kernel
theorem dX3_bare_34 : decode cX3_bare 34 = .ok (.invokevirtual 179, 3) := by decide +kernel
theorem dX3_bare_37 : decode cX3_bare 37 = .ok (.ireturn, 1) := by decide +kernel
set_option maxRecDepth 20000 in
theorem ggX3_weighted_X3_exposureAt : GoodIn wsX3_weighted wsX3_exposureAt := goodIn_r _ [8, 9, 135, 136, 137, 138, 139, 140, 141, 142, 143] (by decide +kernel) (by decide +kernel)
set_option maxRecDepth 20000 in
theorem gX3_weighted_X3_exposureAt : GoodIn wsX3_weighted (wsV RX3 105 RX3 yX3_exposureAt wsX3_exposureAt) := goodIn_app (goodIn_of _ (by decide +kernel)) ggX3_weighted_X3_exposureAt
set_option maxRecDepth 20000 in
theorem ggX3_weighted_X3_findBest : GoodIn wsX3_weighted wsX3_findBest := goodIn_r _ [13, 3, 14, 15, 16, 7, 17, 18, 19, 20, 21, 22, 23, 24, 25, 26, 27, 28, 29, 4, 5, 6, 8, 9, 30, 31, 32, 33, 34, 35, 36, 37, 38, 39, 40, 41, 42, 43, 44, 45, 46, 47, 48, 49, 50, 51, 52, 53, 54, 55, 56, 57, 58, 59, 60, 61, 62, 63, 64, 65, 66, 67, 68, 69, 70, 71, 72, 73, 74, 75, 76, 77, 78, 79, 80, 81, 82, 83, 84, 85, 86, 87, 88, 89, 90, 91, 92, 93, 94, 95, 96, 97, 98, 99, 100, 101, 102, 103, 104, 105, 106, 107, 108, 109, 110, 111, 112, 113, 114, 115, 116, 117, 118, 119, 135, 136, 137, 138, 139, 140, 141, 142, 143, 144, 145, 146, 147, 148, 149, 150, 151, 152, 153, 154, 155, 156, 157, 158, 159, 160, 161, 162, 163] (by decide +kernel) (by decide +kernel)
set_option maxRecDepth 20000 in
theorem gX3_weighted_X3_findBest : GoodIn wsX3_weighted (wsV RX3 169 RX3 yX3_findBest wsX3_findBest) := goodIn_app (goodIn_of _ (by decide +kernel)) ggX3_weighted_X3_findBest
set_option maxRecDepth 20000 in
theorem ggX3_weighted_X2_givenSet : GoodIn wsX3_weighted wsX2_givenSet := goodIn_r _ [122, 29, 123, 124, 125, 21, 126, 127, 128, 129, 130, 131, 132, 133, 134, 116, 117, 118, 119, 89, 93, 94, 95, 144, 145, 146, 147, 148, 149, 150] (by decide +kernel) (by decide +kernel)
set_option maxRecDepth 20000 in
theorem gX3_weighted_X2_givenSet_n176 : GoodIn wsX3_weighted (wsX2_givenSet) := ggX3_weighted_X2_givenSet
set_option maxRecDepth 20000 in
theorem ggX3_weighted_X3_bareWith : GoodIn wsX3_weighted wsX3_bareWith := goodIn_r _ [51, 19, 52, 53, 26, 54, 55, 56, 57, 58, 59, 60, 61, 7, 62, 63, 34, 35, 36, 37, 38, 39, 40, 41, 64, 65, 66, 67, 68, 69, 70, 71, 135, 136, 137, 138, 139, 140, 141, 142, 143, 156, 157, 158, 159, 160, 161, 162, 163, 151, 152, 153, 154, 155] (by decide +kernel) (by decide +kernel)
set_option maxRecDepth 20000 in
theorem gX3_weighted_X3_bareWith : GoodIn wsX3_weighted (wsV RX3 179 RX3 yX3_bareWith wsX3_bareWith) := goodIn_app (goodIn_of _ (by decide +kernel)) ggX3_weighted_X3_bareWith
set_option maxRecDepth 20000 in
theorem ggX3_weighted_X3_weightedOf : GoodIn wsX3_weighted wsX3_weightedOf := goodIn_r _ [75, 76, 77, 25, 26, 27, 78, 79, 7, 80, 81, 61, 62, 63, 135, 136, 137, 138, 139, 140, 141, 142, 143, 156, 157, 158, 159, 160, 161, 162, 163] (by decide +kernel) (by decide +kernel)
set_option maxRecDepth 20000 in
theorem gX3_weighted_X3_weightedOf : GoodIn wsX3_weighted (wsV RX3 183 RX3 yX3_weightedOf wsX3_weightedOf) := goodIn_app (goodIn_of _ (by decide +kernel)) ggX3_weighted_X3_weightedOf
theorem dX3_weighted_0 : decode cX3_weighted 0 = .ok (.aload_n 0, 1) := by decide +kernel
theorem dX3_weighted_1 : decode cX3_weighted 1 = .ok (.iload_n 1, 1) := by decide +kernel
theorem dX3_weighted_2 : decode cX3_weighted 2 = .ok (.invokevirtual 105, 3) := by decide +kernel
theorem dX3_weighted_5 : decode cX3_weighted 5 = .ok (.astore_n 2, 1) := by decide +kernel
theorem dX3_weighted_6 : decode cX3_weighted 6 = .ok (.aload_n 2, 1) := by decide +kernel
theorem dX3_weighted_7 : decode cX3_weighted 7 = .ok (.ifnonnull 13, 3) := by decide +kernel
theorem dX3_weighted_10 : decode cX3_weighted 10 = .ok (.new 52, 3) := by decide +kernel
theorem dX3_weighted_13 : decode cX3_weighted 13 = .ok (.dup, 1) := by decide +kernel
theorem dX3_weighted_14 : decode cX3_weighted 14 = .ok (.ldc 109, 2) := by decide +kernel
theorem dX3_weighted_16 : decode cX3_weighted 16 = .ok (.invokespecial 56, 3) := by decide +kernel
theorem dX3_weighted_19 : decode cX3_weighted 19 = .ok (.athrow, 1) := by decide +kernel
theorem dX3_weighted_20 : decode cX3_weighted 20 = .ok (.aload_n 0, 1) := by decide +kernel
theorem dX3_weighted_21 : decode cX3_weighted 21 = .ok (.invokevirtual 169, 3) := by decide +kernel
theorem dX3_weighted_24 : decode cX3_weighted 24 = .ok (.aload_n 0, 1) := by decide +kernel
theorem dX3_weighted_25 : decode cX3_weighted 25 = .ok (.aload_n 2, 1) := by decide +kernel
theorem dX3_weighted_26 : decode cX3_weighted 26 = .ok (.aload_n 0, 1) := by decide +kernel
theorem dX3_weighted_27 : decode cX3_weighted 27 = .ok (.aload_n 2, 1) := by decide +kernel
theorem dX3_weighted_28 : decode cX3_weighted 28 = .ok (.aload_n 0, 1) := by decide +kernel
theorem dX3_weighted_29 : decode cX3_weighted 29 = .ok (.getfield 31, 3) := by decide +kernel
theorem dX3_weighted_32 : decode cX3_weighted 32 = .ok (.iload_n 1, 1) := by decide +kernel
theorem dX3_weighted_33 : decode cX3_weighted 33 = .ok (.invokevirtual 176, 3) := by decide +kernel
theorem dX3_weighted_36 : decode cX3_weighted 36 = .ok (.invokevirtual 179, 3) := by decide +kernel
theorem dX3_weighted_39 : decode cX3_weighted 39 = .ok (.invokevirtual 183, 3) := by decide +kernel
theorem dX3_weighted_42 : decode cX3_weighted 42 = .ok (.ireturn, 1) := by decide +kernel
set_option maxRecDepth 20000 in
theorem ggX3_whole_X3_findBest : GoodIn wsX3_whole wsX3_findBest := goodIn_r _ [6, 1, 7, 8, 9, 5, 10, 11, 12, 13, 14, 15, 16, 17, 18, 19, 20, 21, 22, 23, 24, 25, 26, 27, 28, 29, 30, 31, 32, 33, 34, 35, 36, 37, 38, 39, 40, 41, 42, 43, 44, 45, 46, 47, 48, 49, 50, 51, 52, 53, 54, 55, 56, 57, 58, 59, 60, 61, 62, 63, 64, 65, 66, 67, 68, 69, 70, 71, 72, 73, 74, 75, 76, 77, 78, 79, 80, 81, 82, 83, 84, 85, 86, 87, 88, 89, 90, 91, 92, 93, 94, 95, 96, 97, 98, 99, 100, 101, 102, 103, 104, 105, 106, 107, 108, 109, 110, 111, 112, 113, 114, 115, 116, 117, 129, 130, 131, 132, 133, 134, 135, 136, 137, 138, 139, 140, 141, 142, 143, 144, 145, 146, 147, 148, 149, 150, 151, 152, 153, 154, 155, 156, 157] (by decide +kernel) (by decide +kernel)
set_option maxRecDepth 20000 in
theorem gX3_whole_X3_findBest : GoodIn wsX3_whole (wsV RX3 169 RX3 yX3_findBest wsX3_findBest) := goodIn_app (goodIn_of _ (by decide +kernel)) ggX3_whole_X3_findBest
set_option maxRecDepth 20000 in
theorem ggX3_whole_X2_bestWhole : GoodIn wsX3_whole wsX2_bestWhole := goodIn_r _ [120, 121, 122, 123, 14, 124, 125, 126, 127, 128, 22, 114, 115, 116, 117, 87, 138, 139, 140, 141, 142, 143, 144] (by decide +kernel) (by decide +kernel)
set_option maxRecDepth 20000 in
theorem gX3_whole_X2_bestWhole_n186 : GoodIn wsX3_whole (wsX2_bestWhole) := ggX3_whole_X2_bestWhole
theorem dX3_whole_0 : decode cX3_whole 0 = .ok (.aload_n 0, 1) := by decide +kernel
theorem dX3_whole_1 : decode cX3_whole 1 = .ok (.invokevirtual 169, 3) := by decide +kernel
theorem dX3_whole_4 : decode cX3_whole 4 = .ok (.aload_n 0, 1) := by decide +kernel
theorem dX3_whole_5 : decode cX3_whole 5 = .ok (.getfield 31, 3) := by decide +kernel
theorem dX3_whole_8 : decode cX3_whole 8 = .ok (.invokevirtual 186, 3) := by decide +kernel
theorem dX3_whole_11 : decode cX3_whole 11 = .ok (.ireturn, 1) := by decide +kernel
set_option maxRecDepth 20000 in
theorem ggX3_wholeByTrying_X3_fillSearch : GoodIn wsX3_wholeByTrying wsX3_fillSearch := goodIn_r _ [6, 1, 7, 8, 9, 10, 11, 12, 13, 14, 15, 16, 17, 18, 19, 20, 21, 5, 22, 23, 24, 25, 26, 27, 28, 29, 30, 31, 32, 33, 34, 35, 36, 37, 38, 39, 40, 41, 42, 43, 44, 45, 46, 47, 48, 49, 50, 51, 52, 53, 54, 55, 56, 57, 58, 59, 60, 61, 62, 63, 64, 65, 66, 67, 68, 69, 70, 71, 72, 73, 74, 75, 76, 77, 78, 79, 91, 92, 93, 94, 95, 96, 97, 98, 99, 100, 101, 102, 103, 104, 105, 106, 107, 108, 109, 110, 111, 112, 113, 114, 115, 116, 117, 118, 119] (by decide +kernel) (by decide +kernel)
set_option maxRecDepth 20000 in
theorem gX3_wholeByTrying_X3_fillSearch : GoodIn wsX3_wholeByTrying (wsV RX3 189 RX3 yX3_fillSearch wsX3_fillSearch) := goodIn_app (goodIn_of _ (by decide +kernel)) ggX3_wholeByTrying_X3_fillSearch
set_option maxRecDepth 20000 in
theorem ggX3_wholeByTrying_X2_triedWhole : GoodIn wsX3_wholeByTrying wsX2_triedWhole := goodIn_r _ [82, 17, 83, 40, 5, 41, 84, 85, 86, 10, 87, 79, 73, 74, 88, 89, 90, 18, 39, 13, 14, 15, 16, 34, 35, 100, 101, 102, 103, 104, 105, 106] (by decide +kernel) (by decide +kernel)
set_option maxRecDepth 20000 in
theorem gX3_wholeByTrying_X2_triedWhole_n192 : GoodIn wsX3_wholeByTrying (wsX2_triedWhole) := ggX3_wholeByTrying_X2_triedWhole
theorem dX3_wholeByTrying_0 : decode cX3_wholeByTrying 0 = .ok (.aload_n 0, 1) := by decide +kernel
theorem dX3_wholeByTrying_1 : decode cX3_wholeByTrying 1 = .ok (.invokevirtual 189, 3) := by decide +kernel
theorem dX3_wholeByTrying_4 : decode cX3_wholeByTrying 4 = .ok (.aload_n 0, 1) := by decide +kernel
theorem dX3_wholeByTrying_5 : decode cX3_wholeByTrying 5 = .ok (.getfield 31, 3) := by decide +kernel
theorem dX3_wholeByTrying_8 : decode cX3_wholeByTrying 8 = .ok (.invokevirtual 192, 3) := by decide +kernel
theorem dX3_wholeByTrying_11 : decode cX3_wholeByTrying 11 = .ok (.ireturn, 1) := by decide +kernel
set_option maxRecDepth 20000 in
theorem ggX3_worth_X3_pieceAt : GoodIn wsX3_worth wsX3_pieceAt := goodIn_r _ [8, 9, 134, 135, 136, 137, 138, 139, 140, 141, 142] (by decide +kernel) (by decide +kernel)
set_option maxRecDepth 20000 in
theorem gX3_worth_X3_pieceAt : GoodIn wsX3_worth (wsV RX3 149 RX3 yX3_pieceAt wsX3_pieceAt) := goodIn_app (goodIn_of _ (by decide +kernel)) ggX3_worth_X3_pieceAt
set_option maxRecDepth 20000 in
theorem ggX3_worth_X3_findBest : GoodIn wsX3_worth wsX3_findBest := goodIn_r _ [13, 3, 14, 15, 16, 7, 17, 18, 19, 20, 21, 22, 23, 24, 25, 26, 27, 28, 29, 30, 31, 32, 33, 34, 35, 36, 37, 38, 4, 5, 6, 8, 9, 39, 40, 41, 42, 43, 44, 45, 46, 47, 48, 49, 50, 51, 52, 53, 54, 55, 56, 57, 58, 59, 60, 61, 62, 63, 64, 65, 66, 67, 68, 69, 70, 71, 72, 73, 74, 75, 76, 77, 78, 79, 80, 81, 82, 83, 84, 85, 86, 87, 88, 89, 90, 91, 92, 93, 94, 95, 96, 97, 98, 99, 100, 101, 102, 103, 104, 105, 106, 107, 108, 109, 110, 111, 112, 113, 114, 115, 116, 117, 118, 119, 134, 135, 136, 137, 138, 139, 140, 141, 142, 143, 144, 145, 146, 147, 148, 149, 150, 151, 152, 153, 154, 155, 156, 157, 158, 159, 160, 161, 162] (by decide +kernel) (by decide +kernel)
set_option maxRecDepth 20000 in
theorem gX3_worth_X3_findBest : GoodIn wsX3_worth (wsV RX3 169 RX3 yX3_findBest wsX3_findBest) := goodIn_app (goodIn_of _ (by decide +kernel)) ggX3_worth_X3_findBest
set_option maxRecDepth 20000 in
theorem ggX3_worth_X2_wholeWithout : GoodIn wsX3_worth wsX2_wholeWithout := goodIn_r _ [122, 123, 124, 125, 21, 126, 29, 116, 117, 118, 119, 89, 143, 144, 145, 146, 147, 148, 149] (by decide +kernel) (by decide +kernel)
set_option maxRecDepth 20000 in
theorem gX3_worth_X2_wholeWithout_n195 : GoodIn wsX3_worth (wsX2_wholeWithout) := ggX3_worth_X2_wholeWithout
set_option maxRecDepth 20000 in
theorem ggX3_worth_X2_bestWhole : GoodIn wsX3_worth wsX2_bestWhole := goodIn_r _ [129, 130, 131, 132, 21, 133, 123, 124, 125, 126, 29, 116, 117, 118, 119, 89, 143, 144, 145, 146, 147, 148, 149] (by decide +kernel) (by decide +kernel)
set_option maxRecDepth 20000 in
theorem gX3_worth_X2_bestWhole_n186 : GoodIn wsX3_worth (wsX2_bestWhole) := ggX3_worth_X2_bestWhole
theorem dX3_worth_0 : decode cX3_worth 0 = .ok (.aload_n 0, 1) := by decide +kernel
theorem dX3_worth_1 : decode cX3_worth 1 = .ok (.iload_n 1, 1) := by decide +kernel
theorem dX3_worth_2 : decode cX3_worth 2 = .ok (.invokevirtual 149, 3) := by decide +kernel
theorem dX3_worth_5 : decode cX3_worth 5 = .ok (.ifnonnull 13, 3) := by decide +kernel
theorem dX3_worth_8 : decode cX3_worth 8 = .ok (.new 52, 3) := by decide +kernel
theorem dX3_worth_11 : decode cX3_worth 11 = .ok (.dup, 1) := by decide +kernel
theorem dX3_worth_12 : decode cX3_worth 12 = .ok (.ldc 153, 2) := by decide +kernel
theorem dX3_worth_14 : decode cX3_worth 14 = .ok (.invokespecial 56, 3) := by decide +kernel
theorem dX3_worth_17 : decode cX3_worth 17 = .ok (.athrow, 1) := by decide +kernel
theorem dX3_worth_18 : decode cX3_worth 18 = .ok (.aload_n 0, 1) := by decide +kernel
theorem dX3_worth_19 : decode cX3_worth 19 = .ok (.invokevirtual 169, 3) := by decide +kernel
theorem dX3_worth_22 : decode cX3_worth 22 = .ok (.aload_n 0, 1) := by decide +kernel
theorem dX3_worth_23 : decode cX3_worth 23 = .ok (.getfield 31, 3) := by decide +kernel
theorem dX3_worth_26 : decode cX3_worth 26 = .ok (.iload_n 1, 1) := by decide +kernel
theorem dX3_worth_27 : decode cX3_worth 27 = .ok (.invokevirtual 195, 3) := by decide +kernel
theorem dX3_worth_30 : decode cX3_worth 30 = .ok (.aload_n 0, 1) := by decide +kernel
theorem dX3_worth_31 : decode cX3_worth 31 = .ok (.getfield 31, 3) := by decide +kernel
theorem dX3_worth_34 : decode cX3_worth 34 = .ok (.invokevirtual 186, 3) := by decide +kernel
theorem dX3_worth_37 : decode cX3_worth 37 = .ok (.isub, 1) := by decide +kernel
theorem dX3_worth_38 : decode cX3_worth 38 = .ok (.ireturn, 1) := by decide +kernel
set_option maxRecDepth 20000 in
theorem ggX3_plain_X3_exposureAt : GoodIn wsX3_plain wsX3_exposureAt := goodIn_r _ [7, 8, 22, 23, 24, 25, 26, 27, 28, 29, 30] (by decide +kernel) (by decide +kernel)
set_option maxRecDepth 20000 in
theorem gX3_plain_X3_exposureAt : GoodIn wsX3_plain (wsV RX3 105 RX3 yX3_exposureAt wsX3_exposureAt) := goodIn_app (goodIn_of _ (by decide +kernel)) ggX3_plain_X3_exposureAt
set_option maxRecDepth 20000 in
theorem ggX3_plain_X0_amountNow : GoodIn wsX3_plain wsX0_amountNow := goodIn_r _ [12, 13, 14, 15, 6, 16, 17, 31, 32, 33, 34, 35, 36, 37, 38] (by decide +kernel) (by decide +kernel)
set_option maxRecDepth 20000 in
theorem gX3_plain_X0_amountNow_n132 : GoodIn wsX3_plain (wsX0_amountNow) := ggX3_plain_X0_amountNow
set_option maxRecDepth 20000 in
theorem ggX3_plain_X3_at : GoodIn wsX3_plain wsX3_at := goodIn_r _ [20] (by decide +kernel) (by decide +kernel)
set_option maxRecDepth 20000 in
theorem gX3_plain_X3_at : GoodIn wsX3_plain (va_wsS RX3 68 yX3_at wsX3_at) := goodIn_app (goodIn_of _ (by decide +kernel)) ggX3_plain_X3_at
set_option maxRecDepth 20000 in
theorem ggX3_plain_X3_percentOf : GoodIn wsX3_plain wsX3_percentOf := goodIn_r _ [16, 17] (by decide +kernel) (by decide +kernel)
set_option maxRecDepth 20000 in
theorem gX3_plain_X3_percentOf : GoodIn wsX3_plain (va_wsS RX3 198 yX3_percentOf wsX3_percentOf) := goodIn_app (goodIn_of _ (by decide +kernel)) ggX3_plain_X3_percentOf
theorem dX3_plain_0 : decode cX3_plain 0 = .ok (.iconst 0, 1) := by decide +kernel
theorem dX3_plain_1 : decode cX3_plain 1 = .ok (.istore_n 1, 1) := by decide +kernel
theorem dX3_plain_2 : decode cX3_plain 2 = .ok (.iconst 0, 1) := by decide +kernel
theorem dX3_plain_3 : decode cX3_plain 3 = .ok (.istore_n 2, 1) := by decide +kernel
theorem dX3_plain_4 : decode cX3_plain 4 = .ok (.iload_n 2, 1) := by decide +kernel
theorem dX3_plain_5 : decode cX3_plain 5 = .ok (.aload_n 0, 1) := by decide +kernel
theorem dX3_plain_6 : decode cX3_plain 6 = .ok (.getfield 35, 3) := by decide +kernel
theorem dX3_plain_9 : decode cX3_plain 9 = .ok (.if_icmp .ge 40, 3) := by decide +kernel
theorem dX3_plain_12 : decode cX3_plain 12 = .ok (.aload_n 0, 1) := by decide +kernel
theorem dX3_plain_13 : decode cX3_plain 13 = .ok (.iload_n 2, 1) := by decide +kernel
theorem dX3_plain_14 : decode cX3_plain 14 = .ok (.invokevirtual 105, 3) := by decide +kernel
theorem dX3_plain_17 : decode cX3_plain 17 = .ok (.astore_n 3, 1) := by decide +kernel
theorem dX3_plain_18 : decode cX3_plain 18 = .ok (.aload_n 3, 1) := by decide +kernel
theorem dX3_plain_19 : decode cX3_plain 19 = .ok (.ifnull 24, 3) := by decide +kernel
theorem dX3_plain_22 : decode cX3_plain 22 = .ok (.iload_n 1, 1) := by decide +kernel
theorem dX3_plain_23 : decode cX3_plain 23 = .ok (.aload_n 3, 1) := by decide +kernel
theorem dX3_plain_24 : decode cX3_plain 24 = .ok (.invokevirtual 132, 3) := by decide +kernel
theorem dX3_plain_27 : decode cX3_plain 27 = .ok (.aload_n 0, 1) := by decide +kernel
theorem dX3_plain_28 : decode cX3_plain 28 = .ok (.getfield 13, 3) := by decide +kernel
theorem dX3_plain_31 : decode cX3_plain 31 = .ok (.aload_n 3, 1) := by decide +kernel
theorem dX3_plain_32 : decode cX3_plain 32 = .ok (.getfield 123, 3) := by decide +kernel
theorem dX3_plain_35 : decode cX3_plain 35 = .ok (.invokestatic 68, 3) := by decide +kernel
theorem dX3_plain_38 : decode cX3_plain 38 = .ok (.invokestatic 198, 3) := by decide +kernel
theorem dX3_plain_41 : decode cX3_plain 41 = .ok (.iadd, 1) := by decide +kernel
theorem dX3_plain_42 : decode cX3_plain 42 = .ok (.istore_n 1, 1) := by decide +kernel
theorem dX3_plain_43 : decode cX3_plain 43 = .ok (.iinc 2 1, 3) := by decide +kernel
theorem dX3_plain_46 : decode cX3_plain 46 = .ok (.goto (-42), 3) := by decide +kernel
theorem dX3_plain_49 : decode cX3_plain 49 = .ok (.iload_n 1, 1) := by decide +kernel
theorem dX3_plain_50 : decode cX3_plain 50 = .ok (.ireturn, 1) := by decide +kernel
set_option maxRecDepth 20000 in
theorem ggX3_required_X3_whole : GoodIn wsX3_required wsX3_whole := goodIn_r _ [10, 11, 12, 13, 14, 9, 15, 16, 17, 18, 19, 20, 21, 22, 23, 24, 25, 26, 27, 4, 28, 29, 30, 31, 32, 33, 34, 35, 36, 37, 38, 39, 40, 41, 42, 43, 44, 45, 46, 47, 48, 49, 50, 51, 52, 53, 54, 55, 56, 57, 2, 3, 5, 58, 59, 60, 61, 62, 63, 64, 65, 66, 67, 68, 69, 70, 71, 72, 73, 74, 75, 76, 77, 78, 79, 80, 81, 82, 83, 84, 85, 86, 87, 88, 89, 90, 91, 92, 93, 94, 95, 96, 97, 98, 99, 100, 101, 102, 103, 104, 105, 106, 107, 108, 109, 110, 111, 112, 113, 114, 115, 116, 117, 118, 119, 120, 121, 122, 123, 124, 125, 126, 127, 128, 129, 130, 131, 132, 133, 139, 140, 141, 142, 143, 144, 145, 146, 147, 148, 149, 150, 151, 152, 153, 154, 155, 156, 157, 158, 159, 160, 161, 162, 163, 164, 165, 166, 167] (by decide +kernel) (by decide +kernel)
set_option maxRecDepth 20000 in
theorem gX3_required_X3_whole : GoodIn wsX3_required (wsV RX3 202 RX3 yX3_whole wsX3_whole) := goodIn_app (goodIn_of _ (by decide +kernel)) ggX3_required_X3_whole
set_option maxRecDepth 20000 in
theorem ggX3_required_X3_plain : GoodIn wsX3_required wsX3_plain := goodIn_r _ [137, 20, 138, 31, 32, 33, 9, 34, 35, 58, 59, 60, 61, 62, 63, 64, 65, 66, 81, 82, 83, 84, 139, 140, 141, 142, 143, 144, 145, 146, 147, 160, 161, 162, 163, 164, 165, 166, 167] (by decide +kernel) (by decide +kernel)
set_option maxRecDepth 20000 in
theorem gX3_required_X3_plain : GoodIn wsX3_required (wsV RX3 205 RX3 yX3_plain wsX3_plain) := goodIn_app (goodIn_of _ (by decide +kernel)) ggX3_required_X3_plain
set_option maxRecDepth 20000 in
theorem ggX3_required_X3_percentOf : GoodIn wsX3_required wsX3_percentOf := goodIn_r _ [65, 66] (by decide +kernel) (by decide +kernel)
set_option maxRecDepth 20000 in
theorem gX3_required_X3_percentOf : GoodIn wsX3_required (va_wsS RX3 198 yX3_percentOf wsX3_percentOf) := goodIn_app (goodIn_of _ (by decide +kernel)) ggX3_required_X3_percentOf
theorem dX3_required_0 : decode cX3_required 0 = .ok (.aload_n 0, 1) := by decide +kernel
theorem dX3_required_1 : decode cX3_required 1 = .ok (.invokevirtual 202, 3) := by decide +kernel
theorem dX3_required_4 : decode cX3_required 4 = .ok (.aload_n 0, 1) := by decide +kernel
theorem dX3_required_5 : decode cX3_required 5 = .ok (.invokevirtual 205, 3) := by decide +kernel
theorem dX3_required_8 : decode cX3_required 8 = .ok (.aload_n 0, 1) := by decide +kernel
theorem dX3_required_9 : decode cX3_required 9 = .ok (.getfield 42, 3) := by decide +kernel
theorem dX3_required_12 : decode cX3_required 12 = .ok (.invokestatic 198, 3) := by decide +kernel
theorem dX3_required_15 : decode cX3_required 15 = .ok (.invokestatic 208, 3) := by decide +kernel
theorem dX3_required_18 : decode cX3_required 18 = .ok (.ireturn, 1) := by decide +kernel
set_option maxRecDepth 20000 in
theorem ggX3_partyBare_X3_isParty : GoodIn wsX3_partyBare wsX3_isParty := goodIn_r _ [6, 7, 8, 5, 9] (by decide +kernel) (by decide +kernel)
set_option maxRecDepth 20000 in
theorem gX3_partyBare_X3_isParty : GoodIn wsX3_partyBare (va_wsS RX3 81 yX3_isParty wsX3_isParty) := goodIn_app (goodIn_of _ (by decide +kernel)) ggX3_partyBare_X3_isParty
set_option maxRecDepth 20000 in
theorem ggX3_partyBare_X3_findBest : GoodIn wsX3_partyBare wsX3_findBest := goodIn_r _ [13, 14, 15, 16, 17, 5, 18, 19, 20, 21, 22, 23, 24, 25, 26, 27, 28, 29, 30, 31, 32, 33, 34, 35, 36, 37, 38, 39, 40, 41, 42, 43, 44, 45, 46, 47, 48, 49, 50, 51, 52, 53, 54, 55, 56, 57, 58, 59, 60, 61, 62, 63, 64, 65, 66, 67, 68, 69, 70, 71, 72, 73, 74, 75, 76, 77, 78, 79, 80, 81, 82, 83, 84, 85, 86, 87, 88, 89, 90, 91, 92, 93, 94, 95, 96, 97, 98, 99, 100, 101, 102, 103, 104, 105, 106, 107, 108, 109, 110, 111, 112, 113, 114, 115, 116, 117, 118, 119, 120, 121, 122, 123, 124, 125, 145, 146, 147, 148, 149, 150, 151, 152, 153, 154, 155, 156, 157, 158, 159, 160, 161, 162, 163, 164, 165, 166, 167, 168, 169, 170, 171, 172, 173] (by decide +kernel) (by decide +kernel)
set_option maxRecDepth 20000 in
theorem gX3_partyBare_X3_findBest : GoodIn wsX3_partyBare (wsV RX3 169 RX3 yX3_findBest wsX3_findBest) := goodIn_app (goodIn_of _ (by decide +kernel)) ggX3_partyBare_X3_findBest
set_option maxRecDepth 20000 in
theorem ggX3_partyBare_X3_bareOfParty : GoodIn wsX3_partyBare wsX3_bareOfParty := goodIn_r _ [129, 19, 14, 31, 32, 33, 5, 34, 35, 130, 22, 131, 132, 30, 133, 134, 135, 136, 137, 138, 139, 140, 141, 142, 143, 144, 122, 123, 124, 125, 95, 99, 100, 101, 54, 55, 56, 57, 20, 58, 59, 27, 60, 61, 62, 63, 64, 65, 66, 67, 68, 69, 40, 41, 42, 43, 44, 45, 46, 47, 70, 71, 72, 73, 74, 75, 76, 77, 145, 146, 147, 148, 149, 150, 151, 152, 153, 166, 167, 168, 169, 170, 171, 172, 173, 154, 155, 156, 157, 158, 159, 160, 161, 162, 163, 164, 165] (by decide +kernel) (by decide +kernel)
set_option maxRecDepth 20000 in
theorem gX3_partyBare_X3_bareOfParty : GoodIn wsX3_partyBare (wsV RX3 215 RX3 yX3_bareOfParty wsX3_bareOfParty) := goodIn_app (goodIn_of _ (by decide +kernel)) ggX3_partyBare_X3_bareOfParty
theorem dX3_partyBare_0 : decode cX3_partyBare 0 = .ok (.iload_n 1, 1) := by decide +kernel
theorem dX3_partyBare_1 : decode cX3_partyBare 1 = .ok (.invokestatic 81, 3) := by decide +kernel
theorem dX3_partyBare_4 : decode cX3_partyBare 4 = .ok (.ifCond .ne 13, 3) := by decide +kernel
theorem dX3_partyBare_7 : decode cX3_partyBare 7 = .ok (.new 52, 3) := by decide +kernel
theorem dX3_partyBare_10 : decode cX3_partyBare 10 = .ok (.dup, 1) := by decide +kernel
theorem dX3_partyBare_11 : decode cX3_partyBare 11 = .ok (.ldc 213, 2) := by decide +kernel
theorem dX3_partyBare_13 : decode cX3_partyBare 13 = .ok (.invokespecial 56, 3) := by decide +kernel
theorem dX3_partyBare_16 : decode cX3_partyBare 16 = .ok (.athrow, 1) := by decide +kernel
theorem dX3_partyBare_17 : decode cX3_partyBare 17 = .ok (.aload_n 0, 1) := by decide +kernel
theorem dX3_partyBare_18 : decode cX3_partyBare 18 = .ok (.invokevirtual 169, 3) := by decide +kernel
theorem dX3_partyBare_21 : decode cX3_partyBare 21 = .ok (.aload_n 0, 1) := by decide +kernel
theorem dX3_partyBare_22 : decode cX3_partyBare 22 = .ok (.iload_n 1, 1) := by decide +kernel
theorem dX3_partyBare_23 : decode cX3_partyBare 23 = .ok (.invokevirtual 215, 3) := by decide +kernel
theorem dX3_partyBare_26 : decode cX3_partyBare 26 = .ok (.ireturn, 1) := by decide +kernel
set_option maxRecDepth 20000 in
theorem ggX3_tooLarge_X3_findBest : GoodIn wsX3_tooLarge wsX3_findBest := goodIn_r _ [6, 7, 8, 9, 10, 5, 11, 12, 13, 14, 15, 16, 17, 18, 19, 20, 21, 22, 23, 24, 25, 26, 27, 28, 29, 30, 31, 32, 33, 34, 35, 36, 37, 38, 39, 40, 41, 42, 43, 44, 45, 46, 47, 48, 49, 50, 51, 52, 53, 54, 55, 56, 57, 58, 59, 60, 61, 62, 63, 64, 65, 66, 67, 68, 69, 70, 71, 72, 73, 74, 75, 76, 77, 78, 79, 80, 81, 82, 83, 84, 85, 86, 87, 88, 89, 90, 91, 92, 93, 94, 95, 96, 97, 98, 99, 100, 101, 102, 103, 104, 105, 106, 107, 108, 109, 110, 111, 112, 113, 114, 115, 116, 117, 118, 138, 139, 140, 141, 142, 143, 144, 145, 146, 147, 148, 149, 150, 151, 152, 153, 154, 155, 156, 157, 158, 159, 160, 161, 162, 163, 164, 165, 166] (by decide +kernel) (by decide +kernel)
set_option maxRecDepth 20000 in
theorem gX3_tooLarge_X3_findBest : GoodIn wsX3_tooLarge (wsV RX3 169 RX3 yX3_findBest wsX3_findBest) := goodIn_app (goodIn_of _ (by decide +kernel)) ggX3_tooLarge_X3_findBest
set_option maxRecDepth 20000 in
theorem ggX3_tooLarge_X3_bareOfParty : GoodIn wsX3_tooLarge wsX3_bareOfParty := goodIn_r _ [122, 12, 7, 24, 25, 26, 5, 27, 28, 123, 15, 124, 125, 23, 126, 127, 128, 129, 130, 131, 132, 133, 134, 135, 136, 137, 115, 116, 117, 118, 88, 92, 93, 94, 47, 48, 49, 50, 13, 51, 52, 20, 53, 54, 55, 56, 57, 58, 59, 60, 61, 62, 33, 34, 35, 36, 37, 38, 39, 40, 63, 64, 65, 66, 67, 68, 69, 70, 138, 139, 140, 141, 142, 143, 144, 145, 146, 159, 160, 161, 162, 163, 164, 165, 166, 147, 148, 149, 150, 151, 152, 153, 154, 155, 156, 157, 158] (by decide +kernel) (by decide +kernel)
set_option maxRecDepth 20000 in
theorem gX3_tooLarge_X3_bareOfParty : GoodIn wsX3_tooLarge (wsV RX3 215 RX3 yX3_bareOfParty wsX3_bareOfParty) := goodIn_app (goodIn_of _ (by decide +kernel)) ggX3_tooLarge_X3_bareOfParty
theorem dX3_tooLarge_0 : decode cX3_tooLarge 0 = .ok (.aload_n 0, 1) := by decide +kernel
theorem dX3_tooLarge_1 : decode cX3_tooLarge 1 = .ok (.invokevirtual 169, 3) := by decide +kernel
theorem dX3_tooLarge_4 : decode cX3_tooLarge 4 = .ok (.iconst 0, 1) := by decide +kernel
theorem dX3_tooLarge_5 : decode cX3_tooLarge 5 = .ok (.istore_n 1, 1) := by decide +kernel
theorem dX3_tooLarge_6 : decode cX3_tooLarge 6 = .ok (.iconst 0, 1) := by decide +kernel
theorem dX3_tooLarge_7 : decode cX3_tooLarge 7 = .ok (.istore_n 2, 1) := by decide +kernel
theorem dX3_tooLarge_8 : decode cX3_tooLarge 8 = .ok (.iload_n 2, 1) := by decide +kernel
theorem dX3_tooLarge_9 : decode cX3_tooLarge 9 = .ok (.iconst 4, 1) := by decide +kernel
theorem dX3_tooLarge_10 : decode cX3_tooLarge 10 = .ok (.if_icmp .ge 29, 3) := by decide +kernel
theorem dX3_tooLarge_13 : decode cX3_tooLarge 13 = .ok (.aload_n 0, 1) := by decide +kernel
theorem dX3_tooLarge_14 : decode cX3_tooLarge 14 = .ok (.iload_n 2, 1) := by decide +kernel
theorem dX3_tooLarge_15 : decode cX3_tooLarge 15 = .ok (.invokevirtual 215, 3) := by decide +kernel
theorem dX3_tooLarge_18 : decode cX3_tooLarge 18 = .ok (.aload_n 0, 1) := by decide +kernel
theorem dX3_tooLarge_19 : decode cX3_tooLarge 19 = .ok (.getfield 45, 3) := by decide +kernel
theorem dX3_tooLarge_22 : decode cX3_tooLarge 22 = .ok (.iconst 4, 1) := by decide +kernel
theorem dX3_tooLarge_23 : decode cX3_tooLarge 23 = .ok (.idiv, 1) := by decide +kernel
theorem dX3_tooLarge_24 : decode cX3_tooLarge 24 = .ok (.if_icmp .le 9, 3) := by decide +kernel
theorem dX3_tooLarge_27 : decode cX3_tooLarge 27 = .ok (.iload_n 1, 1) := by decide +kernel
theorem dX3_tooLarge_28 : decode cX3_tooLarge 28 = .ok (.iconst 1, 1) := by decide +kernel
theorem dX3_tooLarge_29 : decode cX3_tooLarge 29 = .ok (.iload_n 2, 1) := by decide +kernel
theorem dX3_tooLarge_30 : decode cX3_tooLarge 30 = .ok (.ishl, 1) := by decide +kernel
theorem dX3_tooLarge_31 : decode cX3_tooLarge 31 = .ok (.ior, 1) := by decide +kernel
theorem dX3_tooLarge_32 : decode cX3_tooLarge 32 = .ok (.istore_n 1, 1) := by decide +kernel
theorem dX3_tooLarge_33 : decode cX3_tooLarge 33 = .ok (.iinc 2 1, 3) := by decide +kernel
theorem dX3_tooLarge_36 : decode cX3_tooLarge 36 = .ok (.goto (-28), 3) := by decide +kernel
theorem dX3_tooLarge_39 : decode cX3_tooLarge 39 = .ok (.iload_n 1, 1) := by decide +kernel
theorem dX3_tooLarge_40 : decode cX3_tooLarge 40 = .ok (.ireturn, 1) := by decide +kernel
theorem dX3_isWithin_0 : decode cX3_isWithin 0 = .ok (.iload_n 1, 1) := by decide +kernel
theorem dX3_isWithin_1 : decode cX3_isWithin 1 = .ok (.iload_n 0, 1) := by decide +kernel
theorem dX3_isWithin_2 : decode cX3_isWithin 2 = .ok (.if_icmp .gt 12, 3) := by decide +kernel
theorem dX3_isWithin_5 : decode cX3_isWithin 5 = .ok (.iload_n 0, 1) := by decide +kernel
theorem dX3_isWithin_6 : decode cX3_isWithin 6 = .ok (.iload_n 2, 1) := by decide +kernel
theorem dX3_isWithin_7 : decode cX3_isWithin 7 = .ok (.if_icmp .gt 7, 3) := by decide +kernel
theorem dX3_isWithin_10 : decode cX3_isWithin 10 = .ok (.iconst 1, 1) := by decide +kernel
theorem dX3_isWithin_11 : decode cX3_isWithin 11 = .ok (.goto 4, 3) := by decide +kernel
theorem dX3_isWithin_14 : decode cX3_isWithin 14 = .ok (.iconst 0, 1) := by decide +kernel
theorem dX3_isWithin_15 : decode cX3_isWithin 15 = .ok (.ireturn, 1) := by decide +kernel
set_option maxRecDepth 20000 in
theorem ggX3_isClass_X3_isWithin : GoodIn wsX3_isClass wsX3_isWithin := goodIn_r _ [4] (by decide +kernel) (by decide +kernel)
set_option maxRecDepth 20000 in
theorem gX3_isClass_X3_isWithin : GoodIn wsX3_isClass (va_wsS RX3 59 yX3_isWithin wsX3_isWithin) := goodIn_app (goodIn_of _ (by decide +kernel)) ggX3_isClass_X3_isWithin
theorem dX3_isClass_0 : decode cX3_isClass 0 = .ok (.iload_n 0, 1) := by decide +kernel
theorem dX3_isClass_1 : decode cX3_isClass 1 = .ok (.iconst 0, 1) := by decide +kernel
theorem dX3_isClass_2 : decode cX3_isClass 2 = .ok (.iconst 3, 1) := by decide +kernel
theorem dX3_isClass_3 : decode cX3_isClass 3 = .ok (.invokestatic 59, 3) := by decide +kernel
theorem dX3_isClass_6 : decode cX3_isClass 6 = .ok (.ireturn, 1) := by decide +kernel
set_option maxRecDepth 20000 in
theorem ggX3_isParty_X3_isWithin : GoodIn wsX3_isParty wsX3_isWithin := goodIn_r _ [4] (by decide +kernel) (by decide +kernel)
set_option maxRecDepth 20000 in
theorem gX3_isParty_X3_isWithin : GoodIn wsX3_isParty (va_wsS RX3 59 yX3_isWithin wsX3_isWithin) := goodIn_app (goodIn_of _ (by decide +kernel)) ggX3_isParty_X3_isWithin
theorem dX3_isParty_0 : decode cX3_isParty 0 = .ok (.iload_n 0, 1) := by decide +kernel
theorem dX3_isParty_1 : decode cX3_isParty 1 = .ok (.iconst 0, 1) := by decide +kernel
theorem dX3_isParty_2 : decode cX3_isParty 2 = .ok (.iconst 3, 1) := by decide +kernel
theorem dX3_isParty_3 : decode cX3_isParty 3 = .ok (.invokestatic 59, 3) := by decide +kernel
theorem dX3_isParty_6 : decode cX3_isParty 6 = .ok (.ireturn, 1) := by decide +kernel
set_option maxRecDepth 20000 in
theorem ggX3_isCurrency_X3_isWithin : GoodIn wsX3_isCurrency wsX3_isWithin := goodIn_r _ [4] (by decide +kernel) (by decide +kernel)
set_option maxRecDepth 20000 in
theorem gX3_isCurrency_X3_isWithin : GoodIn wsX3_isCurrency (va_wsS RX3 59 yX3_isWithin wsX3_isWithin) := goodIn_app (goodIn_of _ (by decide +kernel)) ggX3_isCurrency_X3_isWithin
theorem dX3_isCurrency_0 : decode cX3_isCurrency 0 = .ok (.iload_n 0, 1) := by decide +kernel
theorem dX3_isCurrency_1 : decode cX3_isCurrency 1 = .ok (.iconst 0, 1) := by decide +kernel
theorem dX3_isCurrency_2 : decode cX3_isCurrency 2 = .ok (.iconst 2, 1) := by decide +kernel
theorem dX3_isCurrency_3 : decode cX3_isCurrency 3 = .ok (.invokestatic 59, 3) := by decide +kernel
theorem dX3_isCurrency_6 : decode cX3_isCurrency 6 = .ok (.ireturn, 1) := by decide +kernel
set_option maxRecDepth 20000 in
theorem ggX3_isDays_X3_isWithin : GoodIn wsX3_isDays wsX3_isWithin := goodIn_r _ [4] (by decide +kernel) (by decide +kernel)
set_option maxRecDepth 20000 in
theorem gX3_isDays_X3_isWithin : GoodIn wsX3_isDays (va_wsS RX3 59 yX3_isWithin wsX3_isWithin) := goodIn_app (goodIn_of _ (by decide +kernel)) ggX3_isDays_X3_isWithin
theorem dX3_isDays_0 : decode cX3_isDays 0 = .ok (.iload_n 0, 1) := by decide +kernel
theorem dX3_isDays_1 : decode cX3_isDays 1 = .ok (.iconst 1, 1) := by decide +kernel
theorem dX3_isDays_2 : decode cX3_isDays 2 = .ok (.sipush 3650, 3) := by decide +kernel
theorem dX3_isDays_5 : decode cX3_isDays 5 = .ok (.invokestatic 59, 3) := by decide +kernel
theorem dX3_isDays_8 : decode cX3_isDays 8 = .ok (.ireturn, 1) := by decide +kernel
set_option maxRecDepth 20000 in
theorem ggX3_isPart_X3_isWithin : GoodIn wsX3_isPart wsX3_isWithin := goodIn_r _ [5] (by decide +kernel) (by decide +kernel)
set_option maxRecDepth 20000 in
theorem gX3_isPart_X3_isWithin : GoodIn wsX3_isPart (va_wsS RX3 59 yX3_isWithin wsX3_isWithin) := goodIn_app (goodIn_of _ (by decide +kernel)) ggX3_isPart_X3_isWithin
theorem dX3_isPart_0 : decode cX3_isPart 0 = .ok (.iload_n 0, 1) := by decide +kernel
theorem dX3_isPart_1 : decode cX3_isPart 1 = .ok (.iconst 0, 1) := by decide +kernel
theorem dX3_isPart_2 : decode cX3_isPart 2 = .ok (.ldc 112, 2) := by decide +kernel
theorem dX3_isPart_4 : decode cX3_isPart 4 = .ok (.invokestatic 59, 3) := by decide +kernel
theorem dX3_isPart_7 : decode cX3_isPart 7 = .ok (.ireturn, 1) := by decide +kernel
set_option maxRecDepth 20000 in
theorem ggX3_isPieceSum_X3_isWithin : GoodIn wsX3_isPieceSum wsX3_isWithin := goodIn_r _ [5] (by decide +kernel) (by decide +kernel)
set_option maxRecDepth 20000 in
theorem gX3_isPieceSum_X3_isWithin : GoodIn wsX3_isPieceSum (va_wsS RX3 59 yX3_isWithin wsX3_isWithin) := goodIn_app (goodIn_of _ (by decide +kernel)) ggX3_isPieceSum_X3_isWithin
theorem dX3_isPieceSum_0 : decode cX3_isPieceSum 0 = .ok (.iload_n 0, 1) := by decide +kernel
theorem dX3_isPieceSum_1 : decode cX3_isPieceSum 1 = .ok (.iconst 1, 1) := by decide +kernel
theorem dX3_isPieceSum_2 : decode cX3_isPieceSum 2 = .ok (.ldc 112, 2) := by decide +kernel
theorem dX3_isPieceSum_4 : decode cX3_isPieceSum 4 = .ok (.invokestatic 59, 3) := by decide +kernel
theorem dX3_isPieceSum_7 : decode cX3_isPieceSum 7 = .ok (.ireturn, 1) := by decide +kernel
set_option maxRecDepth 20000 in
theorem ggX3_isUses_X3_isWithin : GoodIn wsX3_isUses wsX3_isWithin := goodIn_r _ [4] (by decide +kernel) (by decide +kernel)
set_option maxRecDepth 20000 in
theorem gX3_isUses_X3_isWithin : GoodIn wsX3_isUses (va_wsS RX3 59 yX3_isWithin wsX3_isWithin) := goodIn_app (goodIn_of _ (by decide +kernel)) ggX3_isUses_X3_isWithin
theorem dX3_isUses_0 : decode cX3_isUses 0 = .ok (.iload_n 0, 1) := by decide +kernel
theorem dX3_isUses_1 : decode cX3_isUses 1 = .ok (.iconst 0, 1) := by decide +kernel
theorem dX3_isUses_2 : decode cX3_isUses 2 = .ok (.sipush 255, 3) := by decide +kernel
theorem dX3_isUses_5 : decode cX3_isUses 5 = .ok (.invokestatic 59, 3) := by decide +kernel
theorem dX3_isUses_8 : decode cX3_isUses 8 = .ok (.ireturn, 1) := by decide +kernel
theorem dX3_has_0 : decode cX3_has 0 = .ok (.iload_n 0, 1) := by decide +kernel
theorem dX3_has_1 : decode cX3_has 1 = .ok (.iload_n 1, 1) := by decide +kernel
theorem dX3_has_2 : decode cX3_has 2 = .ok (.ishr, 1) := by decide +kernel
theorem dX3_has_3 : decode cX3_has 3 = .ok (.iconst 1, 1) := by decide +kernel
theorem dX3_has_4 : decode cX3_has 4 = .ok (.iand, 1) := by decide +kernel
theorem dX3_has_5 : decode cX3_has 5 = .ok (.ifCond .eq 7, 3) := by decide +kernel
theorem dX3_has_8 : decode cX3_has 8 = .ok (.iconst 1, 1) := by decide +kernel
theorem dX3_has_9 : decode cX3_has 9 = .ok (.goto 4, 3) := by decide +kernel
theorem dX3_has_12 : decode cX3_has 12 = .ok (.iconst 0, 1) := by decide +kernel
theorem dX3_has_13 : decode cX3_has 13 = .ok (.ireturn, 1) := by decide +kernel
theorem dX3_at_0 : decode cX3_at 0 = .ok (.iconst 0, 1) := by decide +kernel
theorem dX3_at_1 : decode cX3_at 1 = .ok (.iload_n 1, 1) := by decide +kernel
theorem dX3_at_2 : decode cX3_at 2 = .ok (.if_icmp .gt 15, 3) := by decide +kernel
theorem dX3_at_5 : decode cX3_at 5 = .ok (.iload_n 1, 1) := by decide +kernel
theorem dX3_at_6 : decode cX3_at 6 = .ok (.aload_n 0, 1) := by decide +kernel
theorem dX3_at_7 : decode cX3_at 7 = .ok (.arraylength, 1) := by decide +kernel
theorem dX3_at_8 : decode cX3_at 8 = .ok (.if_icmp .ge 9, 3) := by decide +kernel
theorem dX3_at_11 : decode cX3_at 11 = .ok (.aload_n 0, 1) := by decide +kernel
theorem dX3_at_12 : decode cX3_at 12 = .ok (.iload_n 1, 1) := by decide +kernel
theorem dX3_at_13 : decode cX3_at 13 = .ok (.iaload, 1) := by decide +kernel
theorem dX3_at_14 : decode cX3_at 14 = .ok (.goto 4, 3) := by decide +kernel
theorem dX3_at_17 : decode cX3_at 17 = .ok (.iconst 0, 1) := by decide +kernel
theorem dX3_at_18 : decode cX3_at 18 = .ok (.ireturn, 1) := by decide +kernel
theorem dX3_put_0 : decode cX3_put 0 = .ok (.iconst 0, 1) := by decide +kernel
theorem dX3_put_1 : decode cX3_put 1 = .ok (.iload_n 1, 1) := by decide +kernel
theorem dX3_put_2 : decode cX3_put 2 = .ok (.if_icmp .gt 13, 3) := by decide +kernel
theorem dX3_put_5 : decode cX3_put 5 = .ok (.iload_n 1, 1) := by decide +kernel
theorem dX3_put_6 : decode cX3_put 6 = .ok (.aload_n 0, 1) := by decide +kernel
theorem dX3_put_7 : decode cX3_put 7 = .ok (.arraylength, 1) := by decide +kernel
theorem dX3_put_8 : decode cX3_put 8 = .ok (.if_icmp .ge 7, 3) := by decide +kernel
theorem dX3_put_11 : decode cX3_put 11 = .ok (.aload_n 0, 1) := by decide +kernel
theorem dX3_put_12 : decode cX3_put 12 = .ok (.iload_n 1, 1) := by decide +kernel
theorem dX3_put_13 : decode cX3_put 13 = .ok (.iload_n 2, 1) := by decide +kernel
theorem dX3_put_14 : decode cX3_put 14 = .ok (.iastore, 1) := by decide +kernel
theorem dX3_put_15 : decode cX3_put 15 = .ok (.return_, 1) := by decide +kernel
theorem dX3_percentOf_0 : decode cX3_percentOf 0 = .ok (.iload_n 0, 1) := by decide +kernel
theorem dX3_percentOf_1 : decode cX3_percentOf 1 = .ok (.i2l, 1) := by decide +kernel
theorem dX3_percentOf_2 : decode cX3_percentOf 2 = .ok (.iload_n 1, 1) := by decide +kernel
theorem dX3_percentOf_3 : decode cX3_percentOf 3 = .ok (.i2l, 1) := by decide +kernel
theorem dX3_percentOf_4 : decode cX3_percentOf 4 = .ok (.lmul, 1) := by decide +kernel
theorem dX3_percentOf_5 : decode cX3_percentOf 5 = .ok (.ldc2_w 218, 3) := by decide +kernel
theorem dX3_percentOf_8 : decode cX3_percentOf 8 = .ok (.ldiv, 1) := by decide +kernel
theorem dX3_percentOf_9 : decode cX3_percentOf 9 = .ok (.l2i, 1) := by decide +kernel
theorem dX3_percentOf_10 : decode cX3_percentOf 10 = .ok (.ireturn, 1) := by decide +kernel
theorem dX3_exposureAt_0 : decode cX3_exposureAt 0 = .ok (.iconst 0, 1) := by decide +kernel
theorem dX3_exposureAt_1 : decode cX3_exposureAt 1 = .ok (.iload_n 1, 1) := by decide +kernel
theorem dX3_exposureAt_2 : decode cX3_exposureAt 2 = .ok (.if_icmp .gt 21, 3) := by decide +kernel
theorem dX3_exposureAt_5 : decode cX3_exposureAt 5 = .ok (.iload_n 1, 1) := by decide +kernel
theorem dX3_exposureAt_6 : decode cX3_exposureAt 6 = .ok (.aload_n 0, 1) := by decide +kernel
theorem dX3_exposureAt_7 : decode cX3_exposureAt 7 = .ok (.getfield 18, 3) := by decide +kernel
theorem dX3_exposureAt_10 : decode cX3_exposureAt 10 = .ok (.arraylength, 1) := by decide +kernel
theorem dX3_exposureAt_11 : decode cX3_exposureAt 11 = .ok (.if_icmp .ge 12, 3) := by decide +kernel
theorem dX3_exposureAt_14 : decode cX3_exposureAt 14 = .ok (.aload_n 0, 1) := by decide +kernel
theorem dX3_exposureAt_15 : decode cX3_exposureAt 15 = .ok (.getfield 18, 3) := by decide +kernel
theorem dX3_exposureAt_18 : decode cX3_exposureAt 18 = .ok (.iload_n 1, 1) := by decide +kernel
theorem dX3_exposureAt_19 : decode cX3_exposureAt 19 = .ok (.aaload, 1) := by decide +kernel
theorem dX3_exposureAt_20 : decode cX3_exposureAt 20 = .ok (.goto 4, 3) := by decide +kernel
theorem dX3_exposureAt_23 : decode cX3_exposureAt 23 = .ok (.aconst_null, 1) := by decide +kernel
theorem dX3_exposureAt_24 : decode cX3_exposureAt 24 = .ok (.areturn, 1) := by decide +kernel
theorem dX3_pieceAt_0 : decode cX3_pieceAt 0 = .ok (.iconst 0, 1) := by decide +kernel
theorem dX3_pieceAt_1 : decode cX3_pieceAt 1 = .ok (.iload_n 1, 1) := by decide +kernel
theorem dX3_pieceAt_2 : decode cX3_pieceAt 2 = .ok (.if_icmp .gt 21, 3) := by decide +kernel
theorem dX3_pieceAt_5 : decode cX3_pieceAt 5 = .ok (.iload_n 1, 1) := by decide +kernel
theorem dX3_pieceAt_6 : decode cX3_pieceAt 6 = .ok (.aload_n 0, 1) := by decide +kernel
theorem dX3_pieceAt_7 : decode cX3_pieceAt 7 = .ok (.getfield 24, 3) := by decide +kernel
theorem dX3_pieceAt_10 : decode cX3_pieceAt 10 = .ok (.arraylength, 1) := by decide +kernel
theorem dX3_pieceAt_11 : decode cX3_pieceAt 11 = .ok (.if_icmp .ge 12, 3) := by decide +kernel
theorem dX3_pieceAt_14 : decode cX3_pieceAt 14 = .ok (.aload_n 0, 1) := by decide +kernel
theorem dX3_pieceAt_15 : decode cX3_pieceAt 15 = .ok (.getfield 24, 3) := by decide +kernel
theorem dX3_pieceAt_18 : decode cX3_pieceAt 18 = .ok (.iload_n 1, 1) := by decide +kernel
theorem dX3_pieceAt_19 : decode cX3_pieceAt 19 = .ok (.aaload, 1) := by decide +kernel
theorem dX3_pieceAt_20 : decode cX3_pieceAt 20 = .ok (.goto 4, 3) := by decide +kernel
theorem dX3_pieceAt_23 : decode cX3_pieceAt 23 = .ok (.aconst_null, 1) := by decide +kernel
theorem dX3_pieceAt_24 : decode cX3_pieceAt 24 = .ok (.areturn, 1) := by decide +kernel
set_option maxRecDepth 20000 in
theorem ggX3_bareWith_X0_amountNow : GoodIn wsX3_bareWith wsX0_amountNow := goodIn_r _ [9, 10, 11, 12, 13, 14, 15, 41, 42, 43, 44, 45, 46, 47, 48] (by decide +kernel) (by decide +kernel)
set_option maxRecDepth 20000 in
theorem gX3_bareWith_X0_amountNow_n132 : GoodIn wsX3_bareWith (wsX0_amountNow) := ggX3_bareWith_X0_amountNow
set_option maxRecDepth 20000 in
theorem ggX3_bareWith_X3_pieceAt : GoodIn wsX3_bareWith wsX3_pieceAt := goodIn_r _ [19, 20, 32, 33, 34, 35, 36, 37, 38, 39, 40] (by decide +kernel) (by decide +kernel)
set_option maxRecDepth 20000 in
theorem gX3_bareWith_X3_pieceAt : GoodIn wsX3_bareWith (wsV RX3 149 RX3 yX3_pieceAt wsX3_pieceAt) := goodIn_app (goodIn_of _ (by decide +kernel)) ggX3_bareWith_X3_pieceAt
set_option maxRecDepth 20000 in
theorem ggX3_bareWith_X3_has : GoodIn wsX3_bareWith wsX3_has := goodIn_r _ [23] (by decide +kernel) (by decide +kernel)
set_option maxRecDepth 20000 in
theorem gX3_bareWith_X3_has : GoodIn wsX3_bareWith (va_wsS RX3 220 yX3_has wsX3_has) := goodIn_app (goodIn_of _ (by decide +kernel)) ggX3_bareWith_X3_has
set_option maxRecDepth 20000 in
theorem ggX3_bareWith_X1_valueFor : GoodIn wsX3_bareWith wsX1_valueFor := goodIn_r _ [27, 28, 29, 30, 31, 12, 13, 14, 15, 49, 50, 51, 52, 53, 41, 42, 43, 44, 45, 46, 47, 48] (by decide +kernel) (by decide +kernel)
set_option maxRecDepth 20000 in
theorem gX3_bareWith_X1_valueFor_n165 : GoodIn wsX3_bareWith (wsX1_valueFor) := ggX3_bareWith_X1_valueFor
theorem dX3_bareWith_0 : decode cX3_bareWith 0 = .ok (.aload_n 1, 1) := by decide +kernel
theorem dX3_bareWith_1 : decode cX3_bareWith 1 = .ok (.invokevirtual 132, 3) := by decide +kernel
theorem dX3_bareWith_4 : decode cX3_bareWith 4 = .ok (.istore_n 3, 1) := by decide +kernel
theorem dX3_bareWith_5 : decode cX3_bareWith 5 = .ok (.iconst 0, 1) := by decide +kernel
theorem dX3_bareWith_6 : decode cX3_bareWith 6 = .ok (.istore 4, 2) := by decide +kernel
theorem dX3_bareWith_8 : decode cX3_bareWith 8 = .ok (.iload 4, 2) := by decide +kernel
theorem dX3_bareWith_10 : decode cX3_bareWith 10 = .ok (.aload_n 0, 1) := by decide +kernel
theorem dX3_bareWith_11 : decode cX3_bareWith 11 = .ok (.getfield 39, 3) := by decide +kernel
theorem dX3_bareWith_14 : decode cX3_bareWith 14 = .ok (.if_icmp .ge 40, 3) := by decide +kernel
theorem dX3_bareWith_17 : decode cX3_bareWith 17 = .ok (.aload_n 0, 1) := by decide +kernel
theorem dX3_bareWith_18 : decode cX3_bareWith 18 = .ok (.iload 4, 2) := by decide +kernel
theorem dX3_bareWith_20 : decode cX3_bareWith 20 = .ok (.invokevirtual 149, 3) := by decide +kernel
theorem dX3_bareWith_23 : decode cX3_bareWith 23 = .ok (.astore 5, 2) := by decide +kernel
theorem dX3_bareWith_25 : decode cX3_bareWith 25 = .ok (.aload 5, 2) := by decide +kernel
theorem dX3_bareWith_27 : decode cX3_bareWith 27 = .ok (.ifnull 21, 3) := by decide +kernel
theorem dX3_bareWith_30 : decode cX3_bareWith 30 = .ok (.iload_n 2, 1) := by decide +kernel
theorem dX3_bareWith_31 : decode cX3_bareWith 31 = .ok (.iload 4, 2) := by decide +kernel
theorem dX3_bareWith_33 : decode cX3_bareWith 33 = .ok (.invokestatic 220, 3) := by decide +kernel
theorem dX3_bareWith_36 : decode cX3_bareWith 36 = .ok (.ifCond .eq 12, 3) := by decide +kernel
theorem dX3_bareWith_39 : decode cX3_bareWith 39 = .ok (.iload_n 3, 1) := by decide +kernel
theorem dX3_bareWith_40 : decode cX3_bareWith 40 = .ok (.aload 5, 2) := by decide +kernel
theorem dX3_bareWith_42 : decode cX3_bareWith 42 = .ok (.aload_n 1, 1) := by decide +kernel
theorem dX3_bareWith_43 : decode cX3_bareWith 43 = .ok (.invokevirtual 165, 3) := by decide +kernel
theorem dX3_bareWith_46 : decode cX3_bareWith 46 = .ok (.isub, 1) := by decide +kernel
theorem dX3_bareWith_47 : decode cX3_bareWith 47 = .ok (.istore_n 3, 1) := by decide +kernel
theorem dX3_bareWith_48 : decode cX3_bareWith 48 = .ok (.iinc 4 1, 3) := by decide +kernel
theorem dX3_bareWith_51 : decode cX3_bareWith 51 = .ok (.goto (-43), 3) := by decide +kernel
theorem dX3_bareWith_54 : decode cX3_bareWith 54 = .ok (.iload_n 3, 1) := by decide +kernel
theorem dX3_bareWith_55 : decode cX3_bareWith 55 = .ok (.iconst 0, 1) := by decide +kernel
theorem dX3_bareWith_56 : decode cX3_bareWith 56 = .ok (.invokestatic 208, 3) := by decide +kernel
theorem dX3_bareWith_59 : decode cX3_bareWith 59 = .ok (.ireturn, 1) := by decide +kernel
set_option maxRecDepth 20000 in
theorem ggX3_weightedOf_X3_at : GoodIn wsX3_weightedOf wsX3_at := goodIn_r _ [9] (by decide +kernel) (by decide +kernel)
set_option maxRecDepth 20000 in
theorem gX3_weightedOf_X3_at : GoodIn wsX3_weightedOf (va_wsS RX3 68 yX3_at wsX3_at) := goodIn_app (goodIn_of _ (by decide +kernel)) ggX3_weightedOf_X3_at
set_option maxRecDepth 20000 in
theorem ggX3_weightedOf_X3_percentOf : GoodIn wsX3_weightedOf wsX3_percentOf := goodIn_r _ [12, 13] (by decide +kernel) (by decide +kernel)
set_option maxRecDepth 20000 in
theorem gX3_weightedOf_X3_percentOf : GoodIn wsX3_weightedOf (va_wsS RX3 198 yX3_percentOf wsX3_percentOf) := goodIn_app (goodIn_of _ (by decide +kernel)) ggX3_weightedOf_X3_percentOf
theorem dX3_weightedOf_0 : decode cX3_weightedOf 0 = .ok (.aload_n 0, 1) := by decide +kernel
theorem dX3_weightedOf_1 : decode cX3_weightedOf 1 = .ok (.getfield 7, 3) := by decide +kernel
theorem dX3_weightedOf_4 : decode cX3_weightedOf 4 = .ok (.aload_n 1, 1) := by decide +kernel
theorem dX3_weightedOf_5 : decode cX3_weightedOf 5 = .ok (.getfield 123, 3) := by decide +kernel
theorem dX3_weightedOf_8 : decode cX3_weightedOf 8 = .ok (.invokestatic 68, 3) := by decide +kernel
theorem dX3_weightedOf_11 : decode cX3_weightedOf 11 = .ok (.istore_n 3, 1) := by decide +kernel
theorem dX3_weightedOf_12 : decode cX3_weightedOf 12 = .ok (.aload_n 0, 1) := by decide +kernel
theorem dX3_weightedOf_13 : decode cX3_weightedOf 13 = .ok (.getfield 7, 3) := by decide +kernel
theorem dX3_weightedOf_16 : decode cX3_weightedOf 16 = .ok (.aload_n 1, 1) := by decide +kernel
theorem dX3_weightedOf_17 : decode cX3_weightedOf 17 = .ok (.getfield 129, 3) := by decide +kernel
theorem dX3_weightedOf_20 : decode cX3_weightedOf 20 = .ok (.invokestatic 68, 3) := by decide +kernel
theorem dX3_weightedOf_23 : decode cX3_weightedOf 23 = .ok (.istore 4, 2) := by decide +kernel
theorem dX3_weightedOf_25 : decode cX3_weightedOf 25 = .ok (.iload 4, 2) := by decide +kernel
theorem dX3_weightedOf_27 : decode cX3_weightedOf 27 = .ok (.iload_n 3, 1) := by decide +kernel
theorem dX3_weightedOf_28 : decode cX3_weightedOf 28 = .ok (.if_icmp .ge 14, 3) := by decide +kernel
theorem dX3_weightedOf_31 : decode cX3_weightedOf 31 = .ok (.iload_n 2, 1) := by decide +kernel
theorem dX3_weightedOf_32 : decode cX3_weightedOf 32 = .ok (.aload_n 1, 1) := by decide +kernel
theorem dX3_weightedOf_33 : decode cX3_weightedOf 33 = .ok (.getfield 126, 3) := by decide +kernel
theorem dX3_weightedOf_36 : decode cX3_weightedOf 36 = .ok (.invokestatic 224, 3) := by decide +kernel
theorem dX3_weightedOf_39 : decode cX3_weightedOf 39 = .ok (.goto 4, 3) := by decide +kernel
theorem dX3_weightedOf_42 : decode cX3_weightedOf 42 = .ok (.iconst 0, 1) := by decide +kernel
theorem dX3_weightedOf_43 : decode cX3_weightedOf 43 = .ok (.istore 5, 2) := by decide +kernel
theorem dX3_weightedOf_45 : decode cX3_weightedOf 45 = .ok (.iload 5, 2) := by decide +kernel
theorem dX3_weightedOf_47 : decode cX3_weightedOf 47 = .ok (.iload 4, 2) := by decide +kernel
theorem dX3_weightedOf_49 : decode cX3_weightedOf 49 = .ok (.invokestatic 198, 3) := by decide +kernel
theorem dX3_weightedOf_52 : decode cX3_weightedOf 52 = .ok (.iload_n 2, 1) := by decide +kernel
theorem dX3_weightedOf_53 : decode cX3_weightedOf 53 = .ok (.iload 5, 2) := by decide +kernel
theorem dX3_weightedOf_55 : decode cX3_weightedOf 55 = .ok (.isub, 1) := by decide +kernel
theorem dX3_weightedOf_56 : decode cX3_weightedOf 56 = .ok (.iload_n 3, 1) := by decide +kernel
theorem dX3_weightedOf_57 : decode cX3_weightedOf 57 = .ok (.invokestatic 198, 3) := by decide +kernel
theorem dX3_weightedOf_60 : decode cX3_weightedOf 60 = .ok (.iadd, 1) := by decide +kernel
theorem dX3_weightedOf_61 : decode cX3_weightedOf 61 = .ok (.ireturn, 1) := by decide +kernel
set_option maxRecDepth 20000 in
theorem ggX3_bareOfParty_X3_exposureAt : GoodIn wsX3_bareOfParty wsX3_exposureAt := goodIn_r _ [7, 8, 68, 69, 70, 71, 72, 73, 74, 75, 76] (by decide +kernel) (by decide +kernel)
set_option maxRecDepth 20000 in
theorem gX3_bareOfParty_X3_exposureAt : GoodIn wsX3_bareOfParty (wsV RX3 105 RX3 yX3_exposureAt wsX3_exposureAt) := goodIn_app (goodIn_of _ (by decide +kernel)) ggX3_bareOfParty_X3_exposureAt
set_option maxRecDepth 20000 in
theorem ggX3_bareOfParty_X2_givenSet : GoodIn wsX3_bareOfParty wsX2_givenSet := goodIn_r _ [12, 13, 14, 15, 16, 10, 17, 18, 19, 20, 21, 22, 23, 24, 25, 26, 27, 28, 29, 30, 31, 32, 33, 85, 86, 87, 88, 89, 90, 91] (by decide +kernel) (by decide +kernel)
set_option maxRecDepth 20000 in
theorem gX3_bareOfParty_X2_givenSet_n176 : GoodIn wsX3_bareOfParty (wsX2_givenSet) := ggX3_bareOfParty_X2_givenSet
set_option maxRecDepth 20000 in
theorem ggX3_bareOfParty_X3_bareWith : GoodIn wsX3_bareOfParty wsX3_bareWith := goodIn_r _ [37, 38, 39, 40, 41, 42, 43, 44, 45, 46, 47, 48, 49, 6, 50, 51, 52, 53, 54, 55, 56, 57, 58, 59, 60, 61, 62, 63, 64, 65, 66, 67, 68, 69, 70, 71, 72, 73, 74, 75, 76, 77, 78, 79, 80, 81, 82, 83, 84, 92, 93, 94, 95, 96] (by decide +kernel) (by decide +kernel)
set_option maxRecDepth 20000 in
theorem gX3_bareOfParty_X3_bareWith : GoodIn wsX3_bareOfParty (wsV RX3 179 RX3 yX3_bareWith wsX3_bareWith) := goodIn_app (goodIn_of _ (by decide +kernel)) ggX3_bareOfParty_X3_bareWith
theorem dX3_bareOfParty_0 : decode cX3_bareOfParty 0 = .ok (.iconst 0, 1) := by decide +kernel
theorem dX3_bareOfParty_1 : decode cX3_bareOfParty 1 = .ok (.istore_n 2, 1) := by decide +kernel
theorem dX3_bareOfParty_2 : decode cX3_bareOfParty 2 = .ok (.iconst 0, 1) := by decide +kernel
theorem dX3_bareOfParty_3 : decode cX3_bareOfParty 3 = .ok (.istore_n 3, 1) := by decide +kernel
theorem dX3_bareOfParty_4 : decode cX3_bareOfParty 4 = .ok (.iload_n 3, 1) := by decide +kernel
theorem dX3_bareOfParty_5 : decode cX3_bareOfParty 5 = .ok (.aload_n 0, 1) := by decide +kernel
theorem dX3_bareOfParty_6 : decode cX3_bareOfParty 6 = .ok (.getfield 35, 3) := by decide +kernel
theorem dX3_bareOfParty_9 : decode cX3_bareOfParty 9 = .ok (.if_icmp .ge 47, 3) := by decide +kernel
theorem dX3_bareOfParty_12 : decode cX3_bareOfParty 12 = .ok (.aload_n 0, 1) := by decide +kernel
theorem dX3_bareOfParty_13 : decode cX3_bareOfParty 13 = .ok (.iload_n 3, 1) := by decide +kernel
theorem dX3_bareOfParty_14 : decode cX3_bareOfParty 14 = .ok (.invokevirtual 105, 3) := by decide +kernel
theorem dX3_bareOfParty_17 : decode cX3_bareOfParty 17 = .ok (.astore 4, 2) := by decide +kernel
theorem dX3_bareOfParty_19 : decode cX3_bareOfParty 19 = .ok (.aload 4, 2) := by decide +kernel
theorem dX3_bareOfParty_21 : decode cX3_bareOfParty 21 = .ok (.ifnull 29, 3) := by decide +kernel
theorem dX3_bareOfParty_24 : decode cX3_bareOfParty 24 = .ok (.aload 4, 2) := by decide +kernel
theorem dX3_bareOfParty_26 : decode cX3_bareOfParty 26 = .ok (.getfield 227, 3) := by decide +kernel
theorem dX3_bareOfParty_29 : decode cX3_bareOfParty 29 = .ok (.iload_n 1, 1) := by decide +kernel
theorem dX3_bareOfParty_30 : decode cX3_bareOfParty 30 = .ok (.if_icmp .ne 20, 3) := by decide +kernel
theorem dX3_bareOfParty_33 : decode cX3_bareOfParty 33 = .ok (.iload_n 2, 1) := by decide +kernel
theorem dX3_bareOfParty_34 : decode cX3_bareOfParty 34 = .ok (.aload_n 0, 1) := by decide +kernel
theorem dX3_bareOfParty_35 : decode cX3_bareOfParty 35 = .ok (.aload 4, 2) := by decide +kernel
theorem dX3_bareOfParty_37 : decode cX3_bareOfParty 37 = .ok (.aload_n 0, 1) := by decide +kernel
theorem dX3_bareOfParty_38 : decode cX3_bareOfParty 38 = .ok (.getfield 31, 3) := by decide +kernel
theorem dX3_bareOfParty_41 : decode cX3_bareOfParty 41 = .ok (.iload_n 3, 1) := by decide +kernel
theorem dX3_bareOfParty_42 : decode cX3_bareOfParty 42 = .ok (.invokevirtual 176, 3) := by decide +kernel
theorem dX3_bareOfParty_45 : decode cX3_bareOfParty 45 = .ok (.invokevirtual 179, 3) := by decide +kernel
theorem dX3_bareOfParty_48 : decode cX3_bareOfParty 48 = .ok (.iadd, 1) := by decide +kernel
theorem dX3_bareOfParty_49 : decode cX3_bareOfParty 49 = .ok (.istore_n 2, 1) := by decide +kernel
theorem dX3_bareOfParty_50 : decode cX3_bareOfParty 50 = .ok (.iinc 3 1, 3) := by decide +kernel
theorem dX3_bareOfParty_53 : decode cX3_bareOfParty 53 = .ok (.goto (-49), 3) := by decide +kernel
theorem dX3_bareOfParty_56 : decode cX3_bareOfParty 56 = .ok (.iload_n 2, 1) := by decide +kernel
theorem dX3_bareOfParty_57 : decode cX3_bareOfParty 57 = .ok (.ireturn, 1) := by decide +kernel
set_option maxRecDepth 20000 in
theorem ggX3_findBest_X3_fillSearch : GoodIn wsX3_findBest wsX3_fillSearch := goodIn_r _ [6, 1, 7, 8, 9, 10, 11, 12, 13, 14, 15, 16, 17, 18, 19, 20, 21, 5, 22, 23, 24, 25, 26, 27, 28, 29, 30, 31, 32, 33, 34, 35, 36, 37, 38, 39, 40, 41, 42, 43, 44, 45, 46, 47, 48, 49, 50, 51, 52, 53, 54, 55, 56, 57, 58, 59, 60, 61, 62, 63, 64, 65, 66, 67, 68, 69, 70, 71, 72, 73, 74, 75, 76, 77, 78, 79, 114, 115, 116, 117, 118, 119, 120, 121, 122, 123, 124, 125, 126, 127, 128, 129, 130, 131, 132, 133, 134, 135, 136, 137, 138, 139, 140, 141, 142] (by decide +kernel) (by decide +kernel)
set_option maxRecDepth 20000 in
theorem gX3_findBest_X3_fillSearch : GoodIn wsX3_findBest (wsV RX3 189 RX3 yX3_fillSearch wsX3_fillSearch) := goodIn_app (goodIn_of _ (by decide +kernel)) ggX3_findBest_X3_fillSearch
set_option maxRecDepth 20000 in
theorem ggX3_findBest_X2_findLeast : GoodIn wsX3_findBest wsX2_findLeast := goodIn_r _ [82, 83, 17, 39, 84, 85, 10, 86, 34, 5, 35, 87, 88, 89, 90, 91, 92, 93, 94, 95, 96, 97, 98, 79, 73, 74, 99, 100, 101, 102, 103, 104, 15, 105, 106, 107, 108, 109, 110, 111, 112, 113, 123, 124, 125, 126, 127, 128, 129] (by decide +kernel) (by decide +kernel)
set_option maxRecDepth 20000 in
theorem gX3_findBest_X2_findLeast_n230 : GoodIn wsX3_findBest (wsX2_findLeast) := ggX3_findBest_X2_findLeast
theorem dX3_findBest_0 : decode cX3_findBest 0 = .ok (.aload_n 0, 1) := by decide +kernel
theorem dX3_findBest_1 : decode cX3_findBest 1 = .ok (.invokevirtual 189, 3) := by decide +kernel
theorem dX3_findBest_4 : decode cX3_findBest 4 = .ok (.aload_n 0, 1) := by decide +kernel
theorem dX3_findBest_5 : decode cX3_findBest 5 = .ok (.getfield 31, 3) := by decide +kernel
theorem dX3_findBest_8 : decode cX3_findBest 8 = .ok (.invokevirtual 230, 3) := by decide +kernel
theorem dX3_findBest_11 : decode cX3_findBest 11 = .ok (.return_, 1) := by decide +kernel
set_option maxRecDepth 20000 in
theorem ggX3_fillSearch_X2_begin : GoodIn wsX3_fillSearch wsX2_begin := goodIn_r _ [7, 8, 9, 10, 11, 12, 13, 85, 86, 87, 88, 89, 90, 91] (by decide +kernel) (by decide +kernel)
set_option maxRecDepth 20000 in
theorem gX3_fillSearch_X2_begin_n233 : GoodIn wsX3_fillSearch (wsX2_begin) := ggX3_fillSearch_X2_begin
set_option maxRecDepth 20000 in
theorem ggX3_fillSearch_X3_exposureAt : GoodIn wsX3_fillSearch wsX3_exposureAt := goodIn_r _ [18, 19, 76, 77, 78, 79, 80, 81, 82, 83, 84] (by decide +kernel) (by decide +kernel)
set_option maxRecDepth 20000 in
theorem gX3_fillSearch_X3_exposureAt : GoodIn wsX3_fillSearch (wsV RX3 105 RX3 yX3_exposureAt wsX3_exposureAt) := goodIn_app (goodIn_of _ (by decide +kernel)) ggX3_fillSearch_X3_exposureAt
set_option maxRecDepth 20000 in
theorem ggX3_fillSearch_X3_usableFor : GoodIn wsX3_fillSearch wsX3_usableFor := goodIn_r _ [23, 3, 24, 25, 26, 17, 27, 28, 29, 30, 31, 76, 77, 78, 79, 80, 81, 82, 83, 84, 92, 93, 94, 95, 96] (by decide +kernel) (by decide +kernel)
set_option maxRecDepth 20000 in
theorem gX3_fillSearch_X3_usableFor : GoodIn wsX3_fillSearch (wsV RX3 237 RX3 yX3_usableFor wsX3_usableFor) := goodIn_app (goodIn_of _ (by decide +kernel)) ggX3_fillSearch_X3_usableFor
set_option maxRecDepth 20000 in
theorem ggX3_fillSearch_X2_setUsable : GoodIn wsX3_fillSearch wsX2_setUsable := goodIn_r _ [34, 35, 36, 17, 37, 85, 86, 87, 88, 89, 90, 91] (by decide +kernel) (by decide +kernel)
set_option maxRecDepth 20000 in
theorem gX3_fillSearch_X2_setUsable_n240 : GoodIn wsX3_fillSearch (wsX2_setUsable) := ggX3_fillSearch_X2_setUsable
set_option maxRecDepth 20000 in
theorem ggX3_fillSearch_X3_bareWith : GoodIn wsX3_fillSearch wsX3_bareWith := goodIn_r _ [41, 3, 42, 43, 10, 44, 45, 46, 47, 48, 49, 50, 51, 17, 52, 53, 24, 25, 26, 27, 28, 29, 30, 31, 54, 55, 56, 57, 58, 59, 60, 61, 76, 77, 78, 79, 80, 81, 82, 83, 84, 97, 98, 99, 100, 101, 102, 103, 104, 92, 93, 94, 95, 96] (by decide +kernel) (by decide +kernel)
set_option maxRecDepth 20000 in
theorem gX3_fillSearch_X3_bareWith : GoodIn wsX3_fillSearch (wsV RX3 179 RX3 yX3_bareWith wsX3_bareWith) := goodIn_app (goodIn_of _ (by decide +kernel)) ggX3_fillSearch_X3_bareWith
set_option maxRecDepth 20000 in
theorem ggX3_fillSearch_X3_weightedOf : GoodIn wsX3_fillSearch wsX3_weightedOf := goodIn_r _ [65, 66, 67, 9, 10, 11, 68, 69, 17, 70, 71, 51, 52, 53, 76, 77, 78, 79, 80, 81, 82, 83, 84, 97, 98, 99, 100, 101, 102, 103, 104] (by decide +kernel) (by decide +kernel)
set_option maxRecDepth 20000 in
theorem gX3_fillSearch_X3_weightedOf : GoodIn wsX3_fillSearch (wsV RX3 183 RX3 yX3_weightedOf wsX3_weightedOf) := goodIn_app (goodIn_of _ (by decide +kernel)) ggX3_fillSearch_X3_weightedOf
set_option maxRecDepth 20000 in
theorem ggX3_fillSearch_X2_setWeighted : GoodIn wsX3_fillSearch wsX2_setWeighted := goodIn_r _ [74, 75, 36, 17, 37, 85, 86, 87, 88, 89, 90, 91] (by decide +kernel) (by decide +kernel)
set_option maxRecDepth 20000 in
theorem gX3_fillSearch_X2_setWeighted_n243 : GoodIn wsX3_fillSearch (wsX2_setWeighted) := ggX3_fillSearch_X2_setWeighted
theorem dX3_fillSearch_0 : decode cX3_fillSearch 0 = .ok (.aload_n 0, 1) := by decide +kernel
theorem dX3_fillSearch_1 : decode cX3_fillSearch 1 = .ok (.getfield 31, 3) := by decide +kernel
theorem dX3_fillSearch_4 : decode cX3_fillSearch 4 = .ok (.aload_n 0, 1) := by decide +kernel
theorem dX3_fillSearch_5 : decode cX3_fillSearch 5 = .ok (.getfield 35, 3) := by decide +kernel
theorem dX3_fillSearch_8 : decode cX3_fillSearch 8 = .ok (.aload_n 0, 1) := by decide +kernel
theorem dX3_fillSearch_9 : decode cX3_fillSearch 9 = .ok (.getfield 39, 3) := by decide +kernel
theorem dX3_fillSearch_12 : decode cX3_fillSearch 12 = .ok (.invokevirtual 233, 3) := by decide +kernel
theorem dX3_fillSearch_15 : decode cX3_fillSearch 15 = .ok (.iconst 0, 1) := by decide +kernel
theorem dX3_fillSearch_16 : decode cX3_fillSearch 16 = .ok (.istore_n 1, 1) := by decide +kernel
theorem dX3_fillSearch_17 : decode cX3_fillSearch 17 = .ok (.iload_n 1, 1) := by decide +kernel
theorem dX3_fillSearch_18 : decode cX3_fillSearch 18 = .ok (.aload_n 0, 1) := by decide +kernel
theorem dX3_fillSearch_19 : decode cX3_fillSearch 19 = .ok (.getfield 35, 3) := by decide +kernel
theorem dX3_fillSearch_22 : decode cX3_fillSearch 22 = .ok (.if_icmp .ge 66, 3) := by decide +kernel
theorem dX3_fillSearch_25 : decode cX3_fillSearch 25 = .ok (.aload_n 0, 1) := by decide +kernel
theorem dX3_fillSearch_26 : decode cX3_fillSearch 26 = .ok (.iload_n 1, 1) := by decide +kernel
theorem dX3_fillSearch_27 : decode cX3_fillSearch 27 = .ok (.invokevirtual 105, 3) := by decide +kernel
theorem dX3_fillSearch_30 : decode cX3_fillSearch 30 = .ok (.astore_n 2, 1) := by decide +kernel
theorem dX3_fillSearch_31 : decode cX3_fillSearch 31 = .ok (.aload_n 2, 1) := by decide +kernel
theorem dX3_fillSearch_32 : decode cX3_fillSearch 32 = .ok (.ifnull 50, 3) := by decide +kernel
theorem dX3_fillSearch_35 : decode cX3_fillSearch 35 = .ok (.aload_n 0, 1) := by decide +kernel
theorem dX3_fillSearch_36 : decode cX3_fillSearch 36 = .ok (.getfield 31, 3) := by decide +kernel
theorem dX3_fillSearch_39 : decode cX3_fillSearch 39 = .ok (.iload_n 1, 1) := by decide +kernel
theorem dX3_fillSearch_40 : decode cX3_fillSearch 40 = .ok (.aload_n 0, 1) := by decide +kernel
theorem dX3_fillSearch_41 : decode cX3_fillSearch 41 = .ok (.iload_n 1, 1) := by decide +kernel
theorem dX3_fillSearch_42 : decode cX3_fillSearch 42 = .ok (.invokevirtual 237, 3) := by decide +kernel
theorem dX3_fillSearch_45 : decode cX3_fillSearch 45 = .ok (.invokevirtual 240, 3) := by decide +kernel
theorem dX3_fillSearch_48 : decode cX3_fillSearch 48 = .ok (.iconst 0, 1) := by decide +kernel
theorem dX3_fillSearch_49 : decode cX3_fillSearch 49 = .ok (.istore_n 3, 1) := by decide +kernel
theorem dX3_fillSearch_50 : decode cX3_fillSearch 50 = .ok (.iload_n 3, 1) := by decide +kernel
theorem dX3_fillSearch_51 : decode cX3_fillSearch 51 = .ok (.bipush 32, 2) := by decide +kernel
theorem dX3_fillSearch_53 : decode cX3_fillSearch 53 = .ok (.if_icmp .ge 29, 3) := by decide +kernel
theorem dX3_fillSearch_56 : decode cX3_fillSearch 56 = .ok (.aload_n 0, 1) := by decide +kernel
theorem dX3_fillSearch_57 : decode cX3_fillSearch 57 = .ok (.getfield 31, 3) := by decide +kernel
theorem dX3_fillSearch_60 : decode cX3_fillSearch 60 = .ok (.iload_n 1, 1) := by decide +kernel
theorem dX3_fillSearch_61 : decode cX3_fillSearch 61 = .ok (.iload_n 3, 1) := by decide +kernel
theorem dX3_fillSearch_62 : decode cX3_fillSearch 62 = .ok (.aload_n 0, 1) := by decide +kernel
theorem dX3_fillSearch_63 : decode cX3_fillSearch 63 = .ok (.aload_n 2, 1) := by decide +kernel
theorem dX3_fillSearch_64 : decode cX3_fillSearch 64 = .ok (.aload_n 0, 1) := by decide +kernel
theorem dX3_fillSearch_65 : decode cX3_fillSearch 65 = .ok (.aload_n 2, 1) := by decide +kernel
theorem dX3_fillSearch_66 : decode cX3_fillSearch 66 = .ok (.iload_n 3, 1) := by decide +kernel
theorem dX3_fillSearch_67 : decode cX3_fillSearch 67 = .ok (.invokevirtual 179, 3) := by decide +kernel
theorem dX3_fillSearch_70 : decode cX3_fillSearch 70 = .ok (.invokevirtual 183, 3) := by decide +kernel
theorem dX3_fillSearch_73 : decode cX3_fillSearch 73 = .ok (.invokevirtual 243, 3) := by decide +kernel
theorem dX3_fillSearch_76 : decode cX3_fillSearch 76 = .ok (.iinc 3 1, 3) := by decide +kernel
theorem dX3_fillSearch_79 : decode cX3_fillSearch 79 = .ok (.goto (-29), 3) := by decide +kernel
theorem dX3_fillSearch_82 : decode cX3_fillSearch 82 = .ok (.iinc 1 1, 3) := by decide +kernel
theorem dX3_fillSearch_85 : decode cX3_fillSearch 85 = .ok (.goto (-68), 3) := by decide +kernel
theorem dX3_fillSearch_88 : decode cX3_fillSearch 88 = .ok (.return_, 1) := by decide +kernel
set_option maxRecDepth 20000 in
theorem ggX3_usableFor_X3_pieceAt : GoodIn wsX3_usableFor wsX3_pieceAt := goodIn_r _ [6, 7, 11, 12, 13, 14, 15, 16, 17, 18, 19] (by decide +kernel) (by decide +kernel)
set_option maxRecDepth 20000 in
theorem gX3_usableFor_X3_pieceAt : GoodIn wsX3_usableFor (wsV RX3 149 RX3 yX3_pieceAt wsX3_pieceAt) := goodIn_app (goodIn_of _ (by decide +kernel)) ggX3_usableFor_X3_pieceAt
set_option maxRecDepth 20000 in
theorem ggX3_usableFor_X3_has : GoodIn wsX3_usableFor wsX3_has := goodIn_r _ [10] (by decide +kernel) (by decide +kernel)
set_option maxRecDepth 20000 in
theorem gX3_usableFor_X3_has : GoodIn wsX3_usableFor (va_wsS RX3 220 yX3_has wsX3_has) := goodIn_app (goodIn_of _ (by decide +kernel)) ggX3_usableFor_X3_has
theorem dX3_usableFor_0 : decode cX3_usableFor 0 = .ok (.iconst 0, 1) := by decide +kernel
theorem dX3_usableFor_1 : decode cX3_usableFor 1 = .ok (.istore_n 2, 1) := by decide +kernel
theorem dX3_usableFor_2 : decode cX3_usableFor 2 = .ok (.iconst 0, 1) := by decide +kernel
theorem dX3_usableFor_3 : decode cX3_usableFor 3 = .ok (.istore_n 3, 1) := by decide +kernel
theorem dX3_usableFor_4 : decode cX3_usableFor 4 = .ok (.iload_n 3, 1) := by decide +kernel
theorem dX3_usableFor_5 : decode cX3_usableFor 5 = .ok (.aload_n 0, 1) := by decide +kernel
theorem dX3_usableFor_6 : decode cX3_usableFor 6 = .ok (.getfield 39, 3) := by decide +kernel
theorem dX3_usableFor_9 : decode cX3_usableFor 9 = .ok (.if_icmp .ge 39, 3) := by decide +kernel
theorem dX3_usableFor_12 : decode cX3_usableFor 12 = .ok (.aload_n 0, 1) := by decide +kernel
theorem dX3_usableFor_13 : decode cX3_usableFor 13 = .ok (.iload_n 3, 1) := by decide +kernel
theorem dX3_usableFor_14 : decode cX3_usableFor 14 = .ok (.invokevirtual 149, 3) := by decide +kernel
theorem dX3_usableFor_17 : decode cX3_usableFor 17 = .ok (.astore 4, 2) := by decide +kernel
theorem dX3_usableFor_19 : decode cX3_usableFor 19 = .ok (.aload 4, 2) := by decide +kernel
theorem dX3_usableFor_21 : decode cX3_usableFor 21 = .ok (.ifnull 21, 3) := by decide +kernel
theorem dX3_usableFor_24 : decode cX3_usableFor 24 = .ok (.aload 4, 2) := by decide +kernel
theorem dX3_usableFor_26 : decode cX3_usableFor 26 = .ok (.getfield 160, 3) := by decide +kernel
theorem dX3_usableFor_29 : decode cX3_usableFor 29 = .ok (.iload_n 1, 1) := by decide +kernel
theorem dX3_usableFor_30 : decode cX3_usableFor 30 = .ok (.invokestatic 220, 3) := by decide +kernel
theorem dX3_usableFor_33 : decode cX3_usableFor 33 = .ok (.ifCond .eq 9, 3) := by decide +kernel
theorem dX3_usableFor_36 : decode cX3_usableFor 36 = .ok (.iload_n 2, 1) := by decide +kernel
theorem dX3_usableFor_37 : decode cX3_usableFor 37 = .ok (.iconst 1, 1) := by decide +kernel
theorem dX3_usableFor_38 : decode cX3_usableFor 38 = .ok (.iload_n 3, 1) := by decide +kernel
theorem dX3_usableFor_39 : decode cX3_usableFor 39 = .ok (.ishl, 1) := by decide +kernel
theorem dX3_usableFor_40 : decode cX3_usableFor 40 = .ok (.ior, 1) := by decide +kernel
theorem dX3_usableFor_41 : decode cX3_usableFor 41 = .ok (.istore_n 2, 1) := by decide +kernel
theorem dX3_usableFor_42 : decode cX3_usableFor 42 = .ok (.iinc 3 1, 3) := by decide +kernel
theorem dX3_usableFor_45 : decode cX3_usableFor 45 = .ok (.goto (-41), 3) := by decide +kernel
theorem dX3_usableFor_48 : decode cX3_usableFor 48 = .ok (.iload_n 2, 1) := by decide +kernel
theorem dX3_usableFor_49 : decode cX3_usableFor 49 = .ok (.ireturn, 1) := by decide +kernel
