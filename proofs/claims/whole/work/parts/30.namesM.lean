theorem dX4_init_0 : decode cX4_init 0 = .ok (.aload_n 0, 1) := by decide +kernel
theorem dX4_init_1 : decode cX4_init 1 = .ok (.invokespecial 1, 3) := by decide +kernel
theorem dX4_init_4 : decode cX4_init 4 = .ok (.aload_n 0, 1) := by decide +kernel
theorem dX4_init_5 : decode cX4_init 5 = .ok (.iconst 4, 1) := by decide +kernel
theorem dX4_init_6 : decode cX4_init 6 = .ok (.newarray .int, 2) := by decide +kernel
theorem dX4_init_8 : decode cX4_init 8 = .ok (.putfield 7, 3) := by decide +kernel
theorem dX4_init_11 : decode cX4_init 11 = .ok (.aload_n 0, 1) := by decide +kernel
theorem dX4_init_12 : decode cX4_init 12 = .ok (.iconst 4, 1) := by decide +kernel
theorem dX4_init_13 : decode cX4_init 13 = .ok (.newarray .int, 2) := by decide +kernel
theorem dX4_init_15 : decode cX4_init 15 = .ok (.putfield 13, 3) := by decide +kernel
theorem dX4_init_18 : decode cX4_init 18 = .ok (.aload_n 0, 1) := by decide +kernel
theorem dX4_init_19 : decode cX4_init 19 = .ok (.bipush 70, 2) := by decide +kernel
theorem dX4_init_21 : decode cX4_init 21 = .ok (.putfield 16, 3) := by decide +kernel
theorem dX4_init_24 : decode cX4_init 24 = .ok (.aload_n 0, 1) := by decide +kernel
theorem dX4_init_25 : decode cX4_init 25 = .ok (.bipush 8, 2) := by decide +kernel
theorem dX4_init_27 : decode cX4_init 27 = .ok (.newarray .int, 2) := by decide +kernel
theorem dX4_init_29 : decode cX4_init 29 = .ok (.putfield 20, 3) := by decide +kernel
theorem dX4_init_32 : decode cX4_init 32 = .ok (.aload_n 0, 1) := by decide +kernel
theorem dX4_init_33 : decode cX4_init 33 = .ok (.bipush 8, 2) := by decide +kernel
theorem dX4_init_35 : decode cX4_init 35 = .ok (.newarray .int, 2) := by decide +kernel
theorem dX4_init_37 : decode cX4_init 37 = .ok (.putfield 23, 3) := by decide +kernel
theorem dX4_init_40 : decode cX4_init 40 = .ok (.aload_n 0, 1) := by decide +kernel
theorem dX4_init_41 : decode cX4_init 41 = .ok (.bipush 8, 2) := by decide +kernel
theorem dX4_init_43 : decode cX4_init 43 = .ok (.newarray .int, 2) := by decide +kernel
theorem dX4_init_45 : decode cX4_init 45 = .ok (.putfield 26, 3) := by decide +kernel
theorem dX4_init_48 : decode cX4_init 48 = .ok (.aload_n 0, 1) := by decide +kernel
theorem dX4_init_49 : decode cX4_init 49 = .ok (.bipush 8, 2) := by decide +kernel
theorem dX4_init_51 : decode cX4_init 51 = .ok (.newarray .int, 2) := by decide +kernel
theorem dX4_init_53 : decode cX4_init 53 = .ok (.putfield 29, 3) := by decide +kernel
theorem dX4_init_56 : decode cX4_init 56 = .ok (.aload_n 0, 1) := by decide +kernel
theorem dX4_init_57 : decode cX4_init 57 = .ok (.bipush 8, 2) := by decide +kernel
theorem dX4_init_59 : decode cX4_init 59 = .ok (.newarray .int, 2) := by decide +kernel
theorem dX4_init_61 : decode cX4_init 61 = .ok (.putfield 32, 3) := by decide +kernel
theorem dX4_init_64 : decode cX4_init 64 = .ok (.aload_n 0, 1) := by decide +kernel
theorem dX4_init_65 : decode cX4_init 65 = .ok (.bipush 8, 2) := by decide +kernel
theorem dX4_init_67 : decode cX4_init 67 = .ok (.newarray .int, 2) := by decide +kernel
theorem dX4_init_69 : decode cX4_init 69 = .ok (.putfield 35, 3) := by decide +kernel
theorem dX4_init_72 : decode cX4_init 72 = .ok (.aload_n 0, 1) := by decide +kernel
theorem dX4_init_73 : decode cX4_init 73 = .ok (.bipush 8, 2) := by decide +kernel
theorem dX4_init_75 : decode cX4_init 75 = .ok (.newarray .int, 2) := by decide +kernel
theorem dX4_init_77 : decode cX4_init 77 = .ok (.putfield 38, 3) := by decide +kernel
theorem dX4_init_80 : decode cX4_init 80 = .ok (.aload_n 0, 1) := by decide +kernel
theorem dX4_init_81 : decode cX4_init 81 = .ok (.bipush 8, 2) := by decide +kernel
theorem dX4_init_83 : decode cX4_init 83 = .ok (.newarray .int, 2) := by decide +kernel
theorem dX4_init_85 : decode cX4_init 85 = .ok (.putfield 41, 3) := by decide +kernel
theorem dX4_init_88 : decode cX4_init 88 = .ok (.aload_n 0, 1) := by decide +kernel
theorem dX4_init_89 : decode cX4_init 89 = .ok (.iconst 5, 1) := by decide +kernel
theorem dX4_init_90 : decode cX4_init 90 = .ok (.newarray .int, 2) := by decide +kernel
theorem dX4_init_92 : decode cX4_init 92 = .ok (.putfield 44, 3) := by decide +kernel
theorem dX4_init_95 : decode cX4_init 95 = .ok (.aload_n 0, 1) := by decide +kernel
theorem dX4_init_96 : decode cX4_init 96 = .ok (.iconst 5, 1) := by decide +kernel
theorem dX4_init_97 : decode cX4_init 97 = .ok (.newarray .int, 2) := by decide +kernel
theorem dX4_init_99 : decode cX4_init 99 = .ok (.putfield 47, 3) := by decide +kernel
theorem dX4_init_102 : decode cX4_init 102 = .ok (.aload_n 0, 1) := by decide +kernel
theorem dX4_init_103 : decode cX4_init 103 = .ok (.iconst 5, 1) := by decide +kernel
theorem dX4_init_104 : decode cX4_init 104 = .ok (.newarray .int, 2) := by decide +kernel
theorem dX4_init_106 : decode cX4_init 106 = .ok (.putfield 50, 3) := by decide +kernel
theorem dX4_init_109 : decode cX4_init 109 = .ok (.aload_n 0, 1) := by decide +kernel
theorem dX4_init_110 : decode cX4_init 110 = .ok (.iconst 5, 1) := by decide +kernel
theorem dX4_init_111 : decode cX4_init 111 = .ok (.newarray .int, 2) := by decide +kernel
theorem dX4_init_113 : decode cX4_init 113 = .ok (.putfield 53, 3) := by decide +kernel
theorem dX4_init_116 : decode cX4_init 116 = .ok (.aload_n 0, 1) := by decide +kernel
theorem dX4_init_117 : decode cX4_init 117 = .ok (.iconst 5, 1) := by decide +kernel
theorem dX4_init_118 : decode cX4_init 118 = .ok (.newarray .int, 2) := by decide +kernel
theorem dX4_init_120 : decode cX4_init 120 = .ok (.putfield 56, 3) := by decide +kernel
theorem dX4_init_123 : decode cX4_init 123 = .ok (.aload_n 0, 1) := by decide +kernel
theorem dX4_init_124 : decode cX4_init 124 = .ok (.sipush 256, 3) := by decide +kernel
theorem dX4_init_127 : decode cX4_init 127 = .ok (.newarray .int, 2) := by decide +kernel
theorem dX4_init_129 : decode cX4_init 129 = .ok (.putfield 59, 3) := by decide +kernel
theorem dX4_init_132 : decode cX4_init 132 = .ok (.aload_n 0, 1) := by decide +kernel
theorem dX4_init_133 : decode cX4_init 133 = .ok (.iconst 5, 1) := by decide +kernel
theorem dX4_init_134 : decode cX4_init 134 = .ok (.newarray .int, 2) := by decide +kernel
theorem dX4_init_136 : decode cX4_init 136 = .ok (.putfield 62, 3) := by decide +kernel
theorem dX4_init_139 : decode cX4_init 139 = .ok (.aload_n 0, 1) := by decide +kernel
theorem dX4_init_140 : decode cX4_init 140 = .ok (.sipush 288, 3) := by decide +kernel
theorem dX4_init_143 : decode cX4_init 143 = .ok (.newarray .int, 2) := by decide +kernel
theorem dX4_init_145 : decode cX4_init 145 = .ok (.putfield 65, 3) := by decide +kernel
theorem dX4_init_148 : decode cX4_init 148 = .ok (.aload_n 0, 1) := by decide +kernel
theorem dX4_init_149 : decode cX4_init 149 = .ok (.getfield 7, 3) := by decide +kernel
theorem dX4_init_152 : decode cX4_init 152 = .ok (.iconst 1, 1) := by decide +kernel
theorem dX4_init_153 : decode cX4_init 153 = .ok (.bipush 20, 2) := by decide +kernel
theorem dX4_init_155 : decode cX4_init 155 = .ok (.iastore, 1) := by decide +kernel
theorem dX4_init_156 : decode cX4_init 156 = .ok (.aload_n 0, 1) := by decide +kernel
theorem dX4_init_157 : decode cX4_init 157 = .ok (.getfield 7, 3) := by decide +kernel
theorem dX4_init_160 : decode cX4_init 160 = .ok (.iconst 2, 1) := by decide +kernel
theorem dX4_init_161 : decode cX4_init 161 = .ok (.bipush 50, 2) := by decide +kernel
theorem dX4_init_163 : decode cX4_init 163 = .ok (.iastore, 1) := by decide +kernel
theorem dX4_init_164 : decode cX4_init 164 = .ok (.aload_n 0, 1) := by decide +kernel
theorem dX4_init_165 : decode cX4_init 165 = .ok (.getfield 7, 3) := by decide +kernel
theorem dX4_init_168 : decode cX4_init 168 = .ok (.iconst 3, 1) := by decide +kernel
theorem dX4_init_169 : decode cX4_init 169 = .ok (.bipush 100, 2) := by decide +kernel
theorem dX4_init_171 : decode cX4_init 171 = .ok (.iastore, 1) := by decide +kernel
theorem dX4_init_172 : decode cX4_init 172 = .ok (.aload_n 0, 1) := by decide +kernel
theorem dX4_init_173 : decode cX4_init 173 = .ok (.getfield 13, 3) := by decide +kernel
theorem dX4_init_176 : decode cX4_init 176 = .ok (.iconst 1, 1) := by decide +kernel
theorem dX4_init_177 : decode cX4_init 177 = .ok (.bipush 50, 2) := by decide +kernel
theorem dX4_init_179 : decode cX4_init 179 = .ok (.iastore, 1) := by decide +kernel
theorem dX4_init_180 : decode cX4_init 180 = .ok (.aload_n 0, 1) := by decide +kernel
theorem dX4_init_181 : decode cX4_init 181 = .ok (.getfield 13, 3) := by decide +kernel
theorem dX4_init_184 : decode cX4_init 184 = .ok (.iconst 2, 1) := by decide +kernel
theorem dX4_init_185 : decode cX4_init 185 = .ok (.bipush 100, 2) := by decide +kernel
theorem dX4_init_187 : decode cX4_init 187 = .ok (.iastore, 1) := by decide +kernel
theorem dX4_init_188 : decode cX4_init 188 = .ok (.aload_n 0, 1) := by decide +kernel
theorem dX4_init_189 : decode cX4_init 189 = .ok (.getfield 13, 3) := by decide +kernel
theorem dX4_init_192 : decode cX4_init 192 = .ok (.iconst 3, 1) := by decide +kernel
theorem dX4_init_193 : decode cX4_init 193 = .ok (.bipush 100, 2) := by decide +kernel
theorem dX4_init_195 : decode cX4_init 195 = .ok (.iastore, 1) := by decide +kernel
theorem dX4_init_196 : decode cX4_init 196 = .ok (.return_, 1) := by decide +kernel
theorem dX4_thrown_0 : decode cX4_thrown 0 = .ok (.aload_n 0, 1) := by decide +kernel
theorem dX4_thrown_1 : decode cX4_thrown 1 = .ok (.getfield 68, 3) := by decide +kernel
theorem dX4_thrown_4 : decode cX4_thrown 4 = .ok (.ireturn, 1) := by decide +kernel
theorem dX4_isIn_0 : decode cX4_isIn 0 = .ok (.iload_n 0, 1) := by decide +kernel
theorem dX4_isIn_1 : decode cX4_isIn 1 = .ok (.iload_n 1, 1) := by decide +kernel
theorem dX4_isIn_2 : decode cX4_isIn 2 = .ok (.if_icmp .lt 12, 3) := by decide +kernel
theorem dX4_isIn_5 : decode cX4_isIn 5 = .ok (.iload_n 0, 1) := by decide +kernel
theorem dX4_isIn_6 : decode cX4_isIn 6 = .ok (.iload_n 2, 1) := by decide +kernel
theorem dX4_isIn_7 : decode cX4_isIn 7 = .ok (.if_icmp .gt 7, 3) := by decide +kernel
theorem dX4_isIn_10 : decode cX4_isIn 10 = .ok (.iconst 1, 1) := by decide +kernel
theorem dX4_isIn_11 : decode cX4_isIn 11 = .ok (.goto 4, 3) := by decide +kernel
theorem dX4_isIn_14 : decode cX4_isIn 14 = .ok (.iconst 0, 1) := by decide +kernel
theorem dX4_isIn_15 : decode cX4_isIn 15 = .ok (.ireturn, 1) := by decide +kernel
set_option maxRecDepth 20000 in
theorem ggX4_isFour_X4_isIn : GoodIn wsX4_isFour wsX4_isIn := goodIn_r _ [4] (by decide +kernel) (by decide +kernel)
set_option maxRecDepth 20000 in
theorem gX4_isFour_X4_isIn : GoodIn wsX4_isFour (va_wsS RX4 71 yX4_isIn wsX4_isIn) := goodIn_app (goodIn_of _ (by decide +kernel)) ggX4_isFour_X4_isIn
theorem dX4_isFour_0 : decode cX4_isFour 0 = .ok (.iload_n 0, 1) := by decide +kernel
theorem dX4_isFour_1 : decode cX4_isFour 1 = .ok (.iconst 0, 1) := by decide +kernel
theorem dX4_isFour_2 : decode cX4_isFour 2 = .ok (.iconst 3, 1) := by decide +kernel
theorem dX4_isFour_3 : decode cX4_isFour 3 = .ok (.invokestatic 71, 3) := by decide +kernel
theorem dX4_isFour_6 : decode cX4_isFour 6 = .ok (.ireturn, 1) := by decide +kernel
set_option maxRecDepth 20000 in
theorem ggX4_isExposure_X4_isIn : GoodIn wsX4_isExposure wsX4_isIn := goodIn_r _ [5] (by decide +kernel) (by decide +kernel)
set_option maxRecDepth 20000 in
theorem gX4_isExposure_X4_isIn : GoodIn wsX4_isExposure (va_wsS RX4 71 yX4_isIn wsX4_isIn) := goodIn_app (goodIn_of _ (by decide +kernel)) ggX4_isExposure_X4_isIn
theorem dX4_isExposure_0 : decode cX4_isExposure 0 = .ok (.iload_n 1, 1) := by decide +kernel
theorem dX4_isExposure_1 : decode cX4_isExposure 1 = .ok (.iconst 0, 1) := by decide +kernel
theorem dX4_isExposure_2 : decode cX4_isExposure 2 = .ok (.aload_n 0, 1) := by decide +kernel
theorem dX4_isExposure_3 : decode cX4_isExposure 3 = .ok (.getfield 75, 3) := by decide +kernel
theorem dX4_isExposure_6 : decode cX4_isExposure 6 = .ok (.iconst 1, 1) := by decide +kernel
theorem dX4_isExposure_7 : decode cX4_isExposure 7 = .ok (.isub, 1) := by decide +kernel
theorem dX4_isExposure_8 : decode cX4_isExposure 8 = .ok (.invokestatic 71, 3) := by decide +kernel
theorem dX4_isExposure_11 : decode cX4_isExposure 11 = .ok (.ireturn, 1) := by decide +kernel
set_option maxRecDepth 20000 in
theorem ggX4_isPiece_X4_isIn : GoodIn wsX4_isPiece wsX4_isIn := goodIn_r _ [5] (by decide +kernel) (by decide +kernel)
set_option maxRecDepth 20000 in
theorem gX4_isPiece_X4_isIn : GoodIn wsX4_isPiece (va_wsS RX4 71 yX4_isIn wsX4_isIn) := goodIn_app (goodIn_of _ (by decide +kernel)) ggX4_isPiece_X4_isIn
theorem dX4_isPiece_0 : decode cX4_isPiece 0 = .ok (.iload_n 1, 1) := by decide +kernel
theorem dX4_isPiece_1 : decode cX4_isPiece 1 = .ok (.iconst 0, 1) := by decide +kernel
theorem dX4_isPiece_2 : decode cX4_isPiece 2 = .ok (.aload_n 0, 1) := by decide +kernel
theorem dX4_isPiece_3 : decode cX4_isPiece 3 = .ok (.getfield 78, 3) := by decide +kernel
theorem dX4_isPiece_6 : decode cX4_isPiece 6 = .ok (.iconst 1, 1) := by decide +kernel
theorem dX4_isPiece_7 : decode cX4_isPiece 7 = .ok (.isub, 1) := by decide +kernel
theorem dX4_isPiece_8 : decode cX4_isPiece 8 = .ok (.invokestatic 71, 3) := by decide +kernel
theorem dX4_isPiece_11 : decode cX4_isPiece 11 = .ok (.ireturn, 1) := by decide +kernel
theorem dX4_percent_0 : decode cX4_percent 0 = .ok (.iload_n 0, 1) := by decide +kernel
theorem dX4_percent_1 : decode cX4_percent 1 = .ok (.i2l, 1) := by decide +kernel
theorem dX4_percent_2 : decode cX4_percent 2 = .ok (.iload_n 1, 1) := by decide +kernel
theorem dX4_percent_3 : decode cX4_percent 3 = .ok (.i2l, 1) := by decide +kernel
theorem dX4_percent_4 : decode cX4_percent 4 = .ok (.lmul, 1) := by decide +kernel
theorem dX4_percent_5 : decode cX4_percent 5 = .ok (.ldc2_w 81, 3) := by decide +kernel
theorem dX4_percent_8 : decode cX4_percent 8 = .ok (.ldiv, 1) := by decide +kernel
theorem dX4_percent_9 : decode cX4_percent 9 = .ok (.l2i, 1) := by decide +kernel
theorem dX4_percent_10 : decode cX4_percent 10 = .ok (.ireturn, 1) := by decide +kernel
set_option maxRecDepth 20000 in
theorem ggX4_setWeights_X4_isFour : GoodIn wsX4_setWeights wsX4_isFour := goodIn_r _ [7, 8, 9, 6, 10] (by decide +kernel) (by decide +kernel)
set_option maxRecDepth 20000 in
theorem gX4_setWeights_X4_isFour : GoodIn wsX4_setWeights (va_wsS RX4 83 yX4_isFour wsX4_isFour) := goodIn_app (goodIn_of _ (by decide +kernel)) ggX4_setWeights_X4_isFour
set_option maxRecDepth 20000 in
theorem ggX4_setWeights_X4_isIn : GoodIn wsX4_setWeights wsX4_isIn := goodIn_r _ [10] (by decide +kernel) (by decide +kernel)
set_option maxRecDepth 20000 in
theorem gX4_setWeights_X4_isIn : GoodIn wsX4_setWeights (va_wsS RX4 71 yX4_isIn wsX4_isIn) := goodIn_app (goodIn_of _ (by decide +kernel)) ggX4_setWeights_X4_isIn
theorem dX4_setWeights_0 : decode cX4_setWeights 0 = .ok (.aload_n 0, 1) := by decide +kernel
theorem dX4_setWeights_1 : decode cX4_setWeights 1 = .ok (.iload_n 1, 1) := by decide +kernel
theorem dX4_setWeights_2 : decode cX4_setWeights 2 = .ok (.invokestatic 83, 3) := by decide +kernel
theorem dX4_setWeights_5 : decode cX4_setWeights 5 = .ok (.ifCond .ne 7, 3) := by decide +kernel
theorem dX4_setWeights_8 : decode cX4_setWeights 8 = .ok (.iconst 1, 1) := by decide +kernel
theorem dX4_setWeights_9 : decode cX4_setWeights 9 = .ok (.goto 30, 3) := by decide +kernel
theorem dX4_setWeights_12 : decode cX4_setWeights 12 = .ok (.iload_n 2, 1) := by decide +kernel
theorem dX4_setWeights_13 : decode cX4_setWeights 13 = .ok (.iconst 0, 1) := by decide +kernel
theorem dX4_setWeights_14 : decode cX4_setWeights 14 = .ok (.sipush 400, 3) := by decide +kernel
theorem dX4_setWeights_17 : decode cX4_setWeights 17 = .ok (.invokestatic 71, 3) := by decide +kernel
theorem dX4_setWeights_20 : decode cX4_setWeights 20 = .ok (.ifCond .eq 18, 3) := by decide +kernel
theorem dX4_setWeights_23 : decode cX4_setWeights 23 = .ok (.iload_n 3, 1) := by decide +kernel
theorem dX4_setWeights_24 : decode cX4_setWeights 24 = .ok (.iconst 0, 1) := by decide +kernel
theorem dX4_setWeights_25 : decode cX4_setWeights 25 = .ok (.sipush 400, 3) := by decide +kernel
theorem dX4_setWeights_28 : decode cX4_setWeights 28 = .ok (.invokestatic 71, 3) := by decide +kernel
theorem dX4_setWeights_31 : decode cX4_setWeights 31 = .ok (.ifCond .eq 7, 3) := by decide +kernel
theorem dX4_setWeights_34 : decode cX4_setWeights 34 = .ok (.iconst 0, 1) := by decide +kernel
theorem dX4_setWeights_35 : decode cX4_setWeights 35 = .ok (.goto 4, 3) := by decide +kernel
theorem dX4_setWeights_38 : decode cX4_setWeights 38 = .ok (.iconst 2, 1) := by decide +kernel
theorem dX4_setWeights_39 : decode cX4_setWeights 39 = .ok (.putfield 68, 3) := by decide +kernel
theorem dX4_setWeights_42 : decode cX4_setWeights 42 = .ok (.aload_n 0, 1) := by decide +kernel
theorem dX4_setWeights_43 : decode cX4_setWeights 43 = .ok (.getfield 68, 3) := by decide +kernel
theorem dX4_setWeights_46 : decode cX4_setWeights 46 = .ok (.ifCond .le 5, 3) := by decide +kernel
theorem dX4_setWeights_49 : decode cX4_setWeights 49 = .ok (.iconst 0, 1) := by decide +kernel
theorem dX4_setWeights_50 : decode cX4_setWeights 50 = .ok (.ireturn, 1) := by decide +kernel
theorem dX4_setWeights_51 : decode cX4_setWeights 51 = .ok (.aload_n 0, 1) := by decide +kernel
theorem dX4_setWeights_52 : decode cX4_setWeights 52 = .ok (.getfield 7, 3) := by decide +kernel
theorem dX4_setWeights_55 : decode cX4_setWeights 55 = .ok (.iload_n 1, 1) := by decide +kernel
theorem dX4_setWeights_56 : decode cX4_setWeights 56 = .ok (.iaload, 1) := by decide +kernel
theorem dX4_setWeights_57 : decode cX4_setWeights 57 = .ok (.istore 4, 2) := by decide +kernel
theorem dX4_setWeights_59 : decode cX4_setWeights 59 = .ok (.aload_n 0, 1) := by decide +kernel
theorem dX4_setWeights_60 : decode cX4_setWeights 60 = .ok (.getfield 7, 3) := by decide +kernel
theorem dX4_setWeights_63 : decode cX4_setWeights 63 = .ok (.iload_n 1, 1) := by decide +kernel
theorem dX4_setWeights_64 : decode cX4_setWeights 64 = .ok (.iload_n 2, 1) := by decide +kernel
theorem dX4_setWeights_65 : decode cX4_setWeights 65 = .ok (.iastore, 1) := by decide +kernel
theorem dX4_setWeights_66 : decode cX4_setWeights 66 = .ok (.aload_n 0, 1) := by decide +kernel
theorem dX4_setWeights_67 : decode cX4_setWeights 67 = .ok (.getfield 13, 3) := by decide +kernel
theorem dX4_setWeights_70 : decode cX4_setWeights 70 = .ok (.iload_n 1, 1) := by decide +kernel
theorem dX4_setWeights_71 : decode cX4_setWeights 71 = .ok (.iload_n 3, 1) := by decide +kernel
theorem dX4_setWeights_72 : decode cX4_setWeights 72 = .ok (.iastore, 1) := by decide +kernel
theorem dX4_setWeights_73 : decode cX4_setWeights 73 = .ok (.iload 4, 2) := by decide +kernel
theorem dX4_setWeights_75 : decode cX4_setWeights 75 = .ok (.ireturn, 1) := by decide +kernel
set_option maxRecDepth 20000 in
theorem ggX4_setFloor_X4_isIn : GoodIn wsX4_setFloor wsX4_isIn := goodIn_r _ [6] (by decide +kernel) (by decide +kernel)
set_option maxRecDepth 20000 in
theorem gX4_setFloor_X4_isIn : GoodIn wsX4_setFloor (va_wsS RX4 71 yX4_isIn wsX4_isIn) := goodIn_app (goodIn_of _ (by decide +kernel)) ggX4_setFloor_X4_isIn
theorem dX4_setFloor_0 : decode cX4_setFloor 0 = .ok (.aload_n 0, 1) := by decide +kernel
theorem dX4_setFloor_1 : decode cX4_setFloor 1 = .ok (.iload_n 1, 1) := by decide +kernel
theorem dX4_setFloor_2 : decode cX4_setFloor 2 = .ok (.iconst 0, 1) := by decide +kernel
theorem dX4_setFloor_3 : decode cX4_setFloor 3 = .ok (.bipush 100, 2) := by decide +kernel
theorem dX4_setFloor_5 : decode cX4_setFloor 5 = .ok (.invokestatic 71, 3) := by decide +kernel
theorem dX4_setFloor_8 : decode cX4_setFloor 8 = .ok (.ifCond .eq 7, 3) := by decide +kernel
theorem dX4_setFloor_11 : decode cX4_setFloor 11 = .ok (.iconst 0, 1) := by decide +kernel
theorem dX4_setFloor_12 : decode cX4_setFloor 12 = .ok (.goto 4, 3) := by decide +kernel
theorem dX4_setFloor_15 : decode cX4_setFloor 15 = .ok (.iconst 1, 1) := by decide +kernel
theorem dX4_setFloor_16 : decode cX4_setFloor 16 = .ok (.putfield 68, 3) := by decide +kernel
theorem dX4_setFloor_19 : decode cX4_setFloor 19 = .ok (.aload_n 0, 1) := by decide +kernel
theorem dX4_setFloor_20 : decode cX4_setFloor 20 = .ok (.getfield 68, 3) := by decide +kernel
theorem dX4_setFloor_23 : decode cX4_setFloor 23 = .ok (.ifCond .le 5, 3) := by decide +kernel
theorem dX4_setFloor_26 : decode cX4_setFloor 26 = .ok (.iconst 0, 1) := by decide +kernel
theorem dX4_setFloor_27 : decode cX4_setFloor 27 = .ok (.ireturn, 1) := by decide +kernel
theorem dX4_setFloor_28 : decode cX4_setFloor 28 = .ok (.aload_n 0, 1) := by decide +kernel
theorem dX4_setFloor_29 : decode cX4_setFloor 29 = .ok (.getfield 16, 3) := by decide +kernel
theorem dX4_setFloor_32 : decode cX4_setFloor 32 = .ok (.istore_n 2, 1) := by decide +kernel
theorem dX4_setFloor_33 : decode cX4_setFloor 33 = .ok (.aload_n 0, 1) := by decide +kernel
theorem dX4_setFloor_34 : decode cX4_setFloor 34 = .ok (.iload_n 1, 1) := by decide +kernel
theorem dX4_setFloor_35 : decode cX4_setFloor 35 = .ok (.putfield 16, 3) := by decide +kernel
theorem dX4_setFloor_38 : decode cX4_setFloor 38 = .ok (.iload_n 2, 1) := by decide +kernel
theorem dX4_setFloor_39 : decode cX4_setFloor 39 = .ok (.ireturn, 1) := by decide +kernel
set_option maxRecDepth 20000 in
theorem ggX4_setCapital_X4_isIn : GoodIn wsX4_setCapital wsX4_isIn := goodIn_r _ [7] (by decide +kernel) (by decide +kernel)
set_option maxRecDepth 20000 in
theorem gX4_setCapital_X4_isIn : GoodIn wsX4_setCapital (va_wsS RX4 71 yX4_isIn wsX4_isIn) := goodIn_app (goodIn_of _ (by decide +kernel)) ggX4_setCapital_X4_isIn
theorem dX4_setCapital_0 : decode cX4_setCapital 0 = .ok (.aload_n 0, 1) := by decide +kernel
theorem dX4_setCapital_1 : decode cX4_setCapital 1 = .ok (.iload_n 1, 1) := by decide +kernel
theorem dX4_setCapital_2 : decode cX4_setCapital 2 = .ok (.iconst 0, 1) := by decide +kernel
theorem dX4_setCapital_3 : decode cX4_setCapital 3 = .ok (.ldc 87, 2) := by decide +kernel
theorem dX4_setCapital_5 : decode cX4_setCapital 5 = .ok (.invokestatic 71, 3) := by decide +kernel
theorem dX4_setCapital_8 : decode cX4_setCapital 8 = .ok (.ifCond .eq 7, 3) := by decide +kernel
theorem dX4_setCapital_11 : decode cX4_setCapital 11 = .ok (.iconst 0, 1) := by decide +kernel
theorem dX4_setCapital_12 : decode cX4_setCapital 12 = .ok (.goto 4, 3) := by decide +kernel
theorem dX4_setCapital_15 : decode cX4_setCapital 15 = .ok (.iconst 1, 1) := by decide +kernel
theorem dX4_setCapital_16 : decode cX4_setCapital 16 = .ok (.putfield 68, 3) := by decide +kernel
theorem dX4_setCapital_19 : decode cX4_setCapital 19 = .ok (.aload_n 0, 1) := by decide +kernel
theorem dX4_setCapital_20 : decode cX4_setCapital 20 = .ok (.getfield 68, 3) := by decide +kernel
theorem dX4_setCapital_23 : decode cX4_setCapital 23 = .ok (.ifCond .le 5, 3) := by decide +kernel
theorem dX4_setCapital_26 : decode cX4_setCapital 26 = .ok (.iconst 0, 1) := by decide +kernel
theorem dX4_setCapital_27 : decode cX4_setCapital 27 = .ok (.ireturn, 1) := by decide +kernel
theorem dX4_setCapital_28 : decode cX4_setCapital 28 = .ok (.aload_n 0, 1) := by decide +kernel
theorem dX4_setCapital_29 : decode cX4_setCapital 29 = .ok (.getfield 88, 3) := by decide +kernel
theorem dX4_setCapital_32 : decode cX4_setCapital 32 = .ok (.istore_n 2, 1) := by decide +kernel
theorem dX4_setCapital_33 : decode cX4_setCapital 33 = .ok (.aload_n 0, 1) := by decide +kernel
theorem dX4_setCapital_34 : decode cX4_setCapital 34 = .ok (.iload_n 1, 1) := by decide +kernel
theorem dX4_setCapital_35 : decode cX4_setCapital 35 = .ok (.putfield 88, 3) := by decide +kernel
theorem dX4_setCapital_38 : decode cX4_setCapital 38 = .ok (.iload_n 2, 1) := by decide +kernel
theorem dX4_setCapital_39 : decode cX4_setCapital 39 = .ok (.ireturn, 1) := by decide +kernel
set_option maxRecDepth 20000 in
theorem ggX4_isSum_X4_isIn : GoodIn wsX4_isSum wsX4_isIn := goodIn_r _ [5] (by decide +kernel) (by decide +kernel)
set_option maxRecDepth 20000 in
theorem gX4_isSum_X4_isIn : GoodIn wsX4_isSum (va_wsS RX4 71 yX4_isIn wsX4_isIn) := goodIn_app (goodIn_of _ (by decide +kernel)) ggX4_isSum_X4_isIn
theorem dX4_isSum_0 : decode cX4_isSum 0 = .ok (.iload_n 0, 1) := by decide +kernel
theorem dX4_isSum_1 : decode cX4_isSum 1 = .ok (.iconst 0, 1) := by decide +kernel
theorem dX4_isSum_2 : decode cX4_isSum 2 = .ok (.ldc 91, 2) := by decide +kernel
theorem dX4_isSum_4 : decode cX4_isSum 4 = .ok (.invokestatic 71, 3) := by decide +kernel
theorem dX4_isSum_7 : decode cX4_isSum 7 = .ok (.ireturn, 1) := by decide +kernel
set_option maxRecDepth 20000 in
theorem ggX4_addExposure_X4_isSum : GoodIn wsX4_addExposure wsX4_isSum := goodIn_r _ [12, 13, 14, 15, 11, 16] (by decide +kernel) (by decide +kernel)
set_option maxRecDepth 20000 in
theorem gX4_addExposure_X4_isSum : GoodIn wsX4_addExposure (va_wsS RX4 92 yX4_isSum wsX4_isSum) := goodIn_app (goodIn_of _ (by decide +kernel)) ggX4_addExposure_X4_isSum
set_option maxRecDepth 20000 in
theorem ggX4_addExposure_X4_isIn : GoodIn wsX4_addExposure wsX4_isIn := goodIn_r _ [16] (by decide +kernel) (by decide +kernel)
set_option maxRecDepth 20000 in
theorem gX4_addExposure_X4_isIn : GoodIn wsX4_addExposure (va_wsS RX4 71 yX4_isIn wsX4_isIn) := goodIn_app (goodIn_of _ (by decide +kernel)) ggX4_addExposure_X4_isIn
set_option maxRecDepth 20000 in
theorem ggX4_addExposure_X4_isFour : GoodIn wsX4_addExposure wsX4_isFour := goodIn_r _ [19, 14, 15, 11, 16] (by decide +kernel) (by decide +kernel)
set_option maxRecDepth 20000 in
theorem gX4_addExposure_X4_isFour : GoodIn wsX4_addExposure (va_wsS RX4 83 yX4_isFour wsX4_isFour) := goodIn_app (goodIn_of _ (by decide +kernel)) ggX4_addExposure_X4_isFour
theorem dX4_addExposure_0 : decode cX4_addExposure 0 = .ok (.iload_n 3, 1) := by decide +kernel
theorem dX4_addExposure_1 : decode cX4_addExposure 1 = .ok (.invokestatic 92, 3) := by decide +kernel
theorem dX4_addExposure_4 : decode cX4_addExposure 4 = .ok (.ifCond .eq 37, 3) := by decide +kernel
theorem dX4_addExposure_7 : decode cX4_addExposure 7 = .ok (.iload 4, 2) := by decide +kernel
theorem dX4_addExposure_9 : decode cX4_addExposure 9 = .ok (.invokestatic 92, 3) := by decide +kernel
theorem dX4_addExposure_12 : decode cX4_addExposure 12 = .ok (.ifCond .eq 29, 3) := by decide +kernel
theorem dX4_addExposure_15 : decode cX4_addExposure 15 = .ok (.iload 5, 2) := by decide +kernel
theorem dX4_addExposure_17 : decode cX4_addExposure 17 = .ok (.iconst 0, 1) := by decide +kernel
theorem dX4_addExposure_18 : decode cX4_addExposure 18 = .ok (.iconst 2, 1) := by decide +kernel
theorem dX4_addExposure_19 : decode cX4_addExposure 19 = .ok (.invokestatic 71, 3) := by decide +kernel
theorem dX4_addExposure_22 : decode cX4_addExposure 22 = .ok (.ifCond .eq 19, 3) := by decide +kernel
theorem dX4_addExposure_25 : decode cX4_addExposure 25 = .ok (.iload 6, 2) := by decide +kernel
theorem dX4_addExposure_27 : decode cX4_addExposure 27 = .ok (.iconst 1, 1) := by decide +kernel
theorem dX4_addExposure_28 : decode cX4_addExposure 28 = .ok (.sipush 3650, 3) := by decide +kernel
theorem dX4_addExposure_31 : decode cX4_addExposure 31 = .ok (.invokestatic 71, 3) := by decide +kernel
theorem dX4_addExposure_34 : decode cX4_addExposure 34 = .ok (.ifCond .eq 7, 3) := by decide +kernel
theorem dX4_addExposure_37 : decode cX4_addExposure 37 = .ok (.iconst 1, 1) := by decide +kernel
theorem dX4_addExposure_38 : decode cX4_addExposure 38 = .ok (.goto 4, 3) := by decide +kernel
theorem dX4_addExposure_41 : decode cX4_addExposure 41 = .ok (.iconst 0, 1) := by decide +kernel
theorem dX4_addExposure_42 : decode cX4_addExposure 42 = .ok (.istore 7, 2) := by decide +kernel
theorem dX4_addExposure_44 : decode cX4_addExposure 44 = .ok (.aload_n 0, 1) := by decide +kernel
theorem dX4_addExposure_45 : decode cX4_addExposure 45 = .ok (.iload_n 1, 1) := by decide +kernel
theorem dX4_addExposure_46 : decode cX4_addExposure 46 = .ok (.invokestatic 83, 3) := by decide +kernel
theorem dX4_addExposure_49 : decode cX4_addExposure 49 = .ok (.ifCond .eq 10, 3) := by decide +kernel
theorem dX4_addExposure_52 : decode cX4_addExposure 52 = .ok (.iload_n 2, 1) := by decide +kernel
theorem dX4_addExposure_53 : decode cX4_addExposure 53 = .ok (.invokestatic 83, 3) := by decide +kernel
theorem dX4_addExposure_56 : decode cX4_addExposure 56 = .ok (.ifCond .ne 7, 3) := by decide +kernel
theorem dX4_addExposure_59 : decode cX4_addExposure 59 = .ok (.iconst 1, 1) := by decide +kernel
theorem dX4_addExposure_60 : decode cX4_addExposure 60 = .ok (.goto 26, 3) := by decide +kernel
theorem dX4_addExposure_63 : decode cX4_addExposure 63 = .ok (.iload 7, 2) := by decide +kernel
theorem dX4_addExposure_65 : decode cX4_addExposure 65 = .ok (.ifCond .ne 7, 3) := by decide +kernel
theorem dX4_addExposure_68 : decode cX4_addExposure 68 = .ok (.iconst 2, 1) := by decide +kernel
theorem dX4_addExposure_69 : decode cX4_addExposure 69 = .ok (.goto 17, 3) := by decide +kernel
theorem dX4_addExposure_72 : decode cX4_addExposure 72 = .ok (.aload_n 0, 1) := by decide +kernel
theorem dX4_addExposure_73 : decode cX4_addExposure 73 = .ok (.getfield 75, 3) := by decide +kernel
theorem dX4_addExposure_76 : decode cX4_addExposure 76 = .ok (.bipush 8, 2) := by decide +kernel
theorem dX4_addExposure_78 : decode cX4_addExposure 78 = .ok (.if_icmp .ne 7, 3) := by decide +kernel
theorem dX4_addExposure_81 : decode cX4_addExposure 81 = .ok (.iconst 3, 1) := by decide +kernel
theorem dX4_addExposure_82 : decode cX4_addExposure 82 = .ok (.goto 4, 3) := by decide +kernel
theorem dX4_addExposure_85 : decode cX4_addExposure 85 = .ok (.iconst 0, 1) := by decide +kernel
theorem dX4_addExposure_86 : decode cX4_addExposure 86 = .ok (.putfield 68, 3) := by decide +kernel
theorem dX4_addExposure_89 : decode cX4_addExposure 89 = .ok (.aload_n 0, 1) := by decide +kernel
theorem dX4_addExposure_90 : decode cX4_addExposure 90 = .ok (.getfield 68, 3) := by decide +kernel
theorem dX4_addExposure_93 : decode cX4_addExposure 93 = .ok (.ifCond .le 5, 3) := by decide +kernel
theorem dX4_addExposure_96 : decode cX4_addExposure 96 = .ok (.iconst 0, 1) := by decide +kernel
theorem dX4_addExposure_97 : decode cX4_addExposure 97 = .ok (.ireturn, 1) := by decide +kernel
theorem dX4_addExposure_98 : decode cX4_addExposure 98 = .ok (.aload_n 0, 1) := by decide +kernel
theorem dX4_addExposure_99 : decode cX4_addExposure 99 = .ok (.getfield 20, 3) := by decide +kernel
theorem dX4_addExposure_102 : decode cX4_addExposure 102 = .ok (.aload_n 0, 1) := by decide +kernel
theorem dX4_addExposure_103 : decode cX4_addExposure 103 = .ok (.getfield 75, 3) := by decide +kernel
theorem dX4_addExposure_106 : decode cX4_addExposure 106 = .ok (.iload_n 1, 1) := by decide +kernel
theorem dX4_addExposure_107 : decode cX4_addExposure 107 = .ok (.iastore, 1) := by decide +kernel
theorem dX4_addExposure_108 : decode cX4_addExposure 108 = .ok (.aload_n 0, 1) := by decide +kernel
theorem dX4_addExposure_109 : decode cX4_addExposure 109 = .ok (.getfield 23, 3) := by decide +kernel
theorem dX4_addExposure_112 : decode cX4_addExposure 112 = .ok (.aload_n 0, 1) := by decide +kernel
theorem dX4_addExposure_113 : decode cX4_addExposure 113 = .ok (.getfield 75, 3) := by decide +kernel
theorem dX4_addExposure_116 : decode cX4_addExposure 116 = .ok (.iload_n 2, 1) := by decide +kernel
theorem dX4_addExposure_117 : decode cX4_addExposure 117 = .ok (.iastore, 1) := by decide +kernel
theorem dX4_addExposure_118 : decode cX4_addExposure 118 = .ok (.aload_n 0, 1) := by decide +kernel
theorem dX4_addExposure_119 : decode cX4_addExposure 119 = .ok (.getfield 26, 3) := by decide +kernel
theorem dX4_addExposure_122 : decode cX4_addExposure 122 = .ok (.aload_n 0, 1) := by decide +kernel
theorem dX4_addExposure_123 : decode cX4_addExposure 123 = .ok (.getfield 75, 3) := by decide +kernel
theorem dX4_addExposure_126 : decode cX4_addExposure 126 = .ok (.iload_n 3, 1) := by decide +kernel
theorem dX4_addExposure_127 : decode cX4_addExposure 127 = .ok (.iastore, 1) := by decide +kernel
theorem dX4_addExposure_128 : decode cX4_addExposure 128 = .ok (.aload_n 0, 1) := by decide +kernel
theorem dX4_addExposure_129 : decode cX4_addExposure 129 = .ok (.getfield 29, 3) := by decide +kernel
theorem dX4_addExposure_132 : decode cX4_addExposure 132 = .ok (.aload_n 0, 1) := by decide +kernel
theorem dX4_addExposure_133 : decode cX4_addExposure 133 = .ok (.getfield 75, 3) := by decide +kernel
theorem dX4_addExposure_136 : decode cX4_addExposure 136 = .ok (.iload 4, 2) := by decide +kernel
theorem dX4_addExposure_138 : decode cX4_addExposure 138 = .ok (.iastore, 1) := by decide +kernel
theorem dX4_addExposure_139 : decode cX4_addExposure 139 = .ok (.aload_n 0, 1) := by decide +kernel
theorem dX4_addExposure_140 : decode cX4_addExposure 140 = .ok (.getfield 32, 3) := by decide +kernel
theorem dX4_addExposure_143 : decode cX4_addExposure 143 = .ok (.aload_n 0, 1) := by decide +kernel
theorem dX4_addExposure_144 : decode cX4_addExposure 144 = .ok (.getfield 75, 3) := by decide +kernel
theorem dX4_addExposure_147 : decode cX4_addExposure 147 = .ok (.iload 5, 2) := by decide +kernel
theorem dX4_addExposure_149 : decode cX4_addExposure 149 = .ok (.iastore, 1) := by decide +kernel
theorem dX4_addExposure_150 : decode cX4_addExposure 150 = .ok (.aload_n 0, 1) := by decide +kernel
theorem dX4_addExposure_151 : decode cX4_addExposure 151 = .ok (.getfield 35, 3) := by decide +kernel
theorem dX4_addExposure_154 : decode cX4_addExposure 154 = .ok (.aload_n 0, 1) := by decide +kernel
theorem dX4_addExposure_155 : decode cX4_addExposure 155 = .ok (.getfield 75, 3) := by decide +kernel
theorem dX4_addExposure_158 : decode cX4_addExposure 158 = .ok (.iload 6, 2) := by decide +kernel
theorem dX4_addExposure_160 : decode cX4_addExposure 160 = .ok (.iastore, 1) := by decide +kernel
theorem dX4_addExposure_161 : decode cX4_addExposure 161 = .ok (.aload_n 0, 1) := by decide +kernel
theorem dX4_addExposure_162 : decode cX4_addExposure 162 = .ok (.dup, 1) := by decide +kernel
theorem dX4_addExposure_163 : decode cX4_addExposure 163 = .ok (.getfield 75, 3) := by decide +kernel
theorem dX4_addExposure_166 : decode cX4_addExposure 166 = .ok (.iconst 1, 1) := by decide +kernel
theorem dX4_addExposure_167 : decode cX4_addExposure 167 = .ok (.iadd, 1) := by decide +kernel
theorem dX4_addExposure_168 : decode cX4_addExposure 168 = .ok (.putfield 75, 3) := by decide +kernel
theorem dX4_addExposure_171 : decode cX4_addExposure 171 = .ok (.aload_n 0, 1) := by decide +kernel
theorem dX4_addExposure_172 : decode cX4_addExposure 172 = .ok (.getfield 75, 3) := by decide +kernel
theorem dX4_addExposure_175 : decode cX4_addExposure 175 = .ok (.iconst 1, 1) := by decide +kernel
theorem dX4_addExposure_176 : decode cX4_addExposure 176 = .ok (.isub, 1) := by decide +kernel
theorem dX4_addExposure_177 : decode cX4_addExposure 177 = .ok (.ireturn, 1) := by decide +kernel
set_option maxRecDepth 20000 in
theorem ggX4_draw_X4_isExposure : GoodIn wsX4_draw wsX4_isExposure := goodIn_r _ [10, 11, 12, 13, 9, 14, 18, 19, 20, 21, 22, 23, 24, 25, 26, 27, 28, 29, 30, 31, 32, 33, 34, 35, 36, 37, 38, 39, 40] (by decide +kernel) (by decide +kernel)
set_option maxRecDepth 20000 in
theorem gX4_draw_X4_isExposure : GoodIn wsX4_draw (wsV RX4 95 RX4 yX4_isExposure wsX4_isExposure) := goodIn_app (goodIn_of _ (by decide +kernel)) ggX4_draw_X4_isExposure
set_option maxRecDepth 20000 in
theorem ggX4_draw_X4_isIn : GoodIn wsX4_draw wsX4_isIn := goodIn_r _ [14] (by decide +kernel) (by decide +kernel)
set_option maxRecDepth 20000 in
theorem gX4_draw_X4_isIn : GoodIn wsX4_draw (va_wsS RX4 71 yX4_isIn wsX4_isIn) := goodIn_app (goodIn_of _ (by decide +kernel)) ggX4_draw_X4_isIn
set_option maxRecDepth 20000 in
theorem ggX4_draw_X4_isSum : GoodIn wsX4_draw wsX4_isSum := goodIn_r _ [17, 2, 12, 13, 9, 14] (by decide +kernel) (by decide +kernel)
set_option maxRecDepth 20000 in
theorem gX4_draw_X4_isSum : GoodIn wsX4_draw (va_wsS RX4 92 yX4_isSum wsX4_isSum) := goodIn_app (goodIn_of _ (by decide +kernel)) ggX4_draw_X4_isSum
theorem dX4_draw_0 : decode cX4_draw 0 = .ok (.aload_n 0, 1) := by decide +kernel
theorem dX4_draw_1 : decode cX4_draw 1 = .ok (.aload_n 0, 1) := by decide +kernel
theorem dX4_draw_2 : decode cX4_draw 2 = .ok (.iload_n 1, 1) := by decide +kernel
theorem dX4_draw_3 : decode cX4_draw 3 = .ok (.invokevirtual 95, 3) := by decide +kernel
theorem dX4_draw_6 : decode cX4_draw 6 = .ok (.ifCond .ne 7, 3) := by decide +kernel
theorem dX4_draw_9 : decode cX4_draw 9 = .ok (.iconst 1, 1) := by decide +kernel
theorem dX4_draw_10 : decode cX4_draw 10 = .ok (.goto 19, 3) := by decide +kernel
theorem dX4_draw_13 : decode cX4_draw 13 = .ok (.iload_n 2, 1) := by decide +kernel
theorem dX4_draw_14 : decode cX4_draw 14 = .ok (.ldc 98, 2) := by decide +kernel
theorem dX4_draw_16 : decode cX4_draw 16 = .ok (.ldc 91, 2) := by decide +kernel
theorem dX4_draw_18 : decode cX4_draw 18 = .ok (.invokestatic 71, 3) := by decide +kernel
theorem dX4_draw_21 : decode cX4_draw 21 = .ok (.ifCond .eq 7, 3) := by decide +kernel
theorem dX4_draw_24 : decode cX4_draw 24 = .ok (.iconst 0, 1) := by decide +kernel
theorem dX4_draw_25 : decode cX4_draw 25 = .ok (.goto 4, 3) := by decide +kernel
theorem dX4_draw_28 : decode cX4_draw 28 = .ok (.iconst 2, 1) := by decide +kernel
theorem dX4_draw_29 : decode cX4_draw 29 = .ok (.putfield 68, 3) := by decide +kernel
theorem dX4_draw_32 : decode cX4_draw 32 = .ok (.aload_n 0, 1) := by decide +kernel
theorem dX4_draw_33 : decode cX4_draw 33 = .ok (.getfield 68, 3) := by decide +kernel
theorem dX4_draw_36 : decode cX4_draw 36 = .ok (.ifCond .le 5, 3) := by decide +kernel
theorem dX4_draw_39 : decode cX4_draw 39 = .ok (.iconst 0, 1) := by decide +kernel
theorem dX4_draw_40 : decode cX4_draw 40 = .ok (.ireturn, 1) := by decide +kernel
theorem dX4_draw_41 : decode cX4_draw 41 = .ok (.aload_n 0, 1) := by decide +kernel
theorem dX4_draw_42 : decode cX4_draw 42 = .ok (.aload_n 0, 1) := by decide +kernel
theorem dX4_draw_43 : decode cX4_draw 43 = .ok (.getfield 26, 3) := by decide +kernel
theorem dX4_draw_46 : decode cX4_draw 46 = .ok (.iload_n 1, 1) := by decide +kernel
theorem dX4_draw_47 : decode cX4_draw 47 = .ok (.iaload, 1) := by decide +kernel
theorem dX4_draw_48 : decode cX4_draw 48 = .ok (.iload_n 2, 1) := by decide +kernel
theorem dX4_draw_49 : decode cX4_draw 49 = .ok (.iadd, 1) := by decide +kernel
theorem dX4_draw_50 : decode cX4_draw 50 = .ok (.invokestatic 92, 3) := by decide +kernel
theorem dX4_draw_53 : decode cX4_draw 53 = .ok (.ifCond .eq 21, 3) := by decide +kernel
theorem dX4_draw_56 : decode cX4_draw 56 = .ok (.aload_n 0, 1) := by decide +kernel
theorem dX4_draw_57 : decode cX4_draw 57 = .ok (.getfield 29, 3) := by decide +kernel
theorem dX4_draw_60 : decode cX4_draw 60 = .ok (.iload_n 1, 1) := by decide +kernel
theorem dX4_draw_61 : decode cX4_draw 61 = .ok (.iaload, 1) := by decide +kernel
theorem dX4_draw_62 : decode cX4_draw 62 = .ok (.iload_n 2, 1) := by decide +kernel
theorem dX4_draw_63 : decode cX4_draw 63 = .ok (.isub, 1) := by decide +kernel
theorem dX4_draw_64 : decode cX4_draw 64 = .ok (.invokestatic 92, 3) := by decide +kernel
theorem dX4_draw_67 : decode cX4_draw 67 = .ok (.ifCond .eq 7, 3) := by decide +kernel
theorem dX4_draw_70 : decode cX4_draw 70 = .ok (.iconst 0, 1) := by decide +kernel
theorem dX4_draw_71 : decode cX4_draw 71 = .ok (.goto 4, 3) := by decide +kernel
theorem dX4_draw_74 : decode cX4_draw 74 = .ok (.iconst 3, 1) := by decide +kernel
theorem dX4_draw_75 : decode cX4_draw 75 = .ok (.putfield 68, 3) := by decide +kernel
theorem dX4_draw_78 : decode cX4_draw 78 = .ok (.aload_n 0, 1) := by decide +kernel
theorem dX4_draw_79 : decode cX4_draw 79 = .ok (.getfield 68, 3) := by decide +kernel
theorem dX4_draw_82 : decode cX4_draw 82 = .ok (.ifCond .le 5, 3) := by decide +kernel
theorem dX4_draw_85 : decode cX4_draw 85 = .ok (.iconst 0, 1) := by decide +kernel
theorem dX4_draw_86 : decode cX4_draw 86 = .ok (.ireturn, 1) := by decide +kernel
theorem dX4_draw_87 : decode cX4_draw 87 = .ok (.aload_n 0, 1) := by decide +kernel
theorem dX4_draw_88 : decode cX4_draw 88 = .ok (.getfield 26, 3) := by decide +kernel
theorem dX4_draw_91 : decode cX4_draw 91 = .ok (.iload_n 1, 1) := by decide +kernel
theorem dX4_draw_92 : decode cX4_draw 92 = .ok (.dup2, 1) := by decide +kernel
theorem dX4_draw_93 : decode cX4_draw 93 = .ok (.iaload, 1) := by decide +kernel
theorem dX4_draw_94 : decode cX4_draw 94 = .ok (.iload_n 2, 1) := by decide +kernel
theorem dX4_draw_95 : decode cX4_draw 95 = .ok (.iadd, 1) := by decide +kernel
theorem dX4_draw_96 : decode cX4_draw 96 = .ok (.iastore, 1) := by decide +kernel
theorem dX4_draw_97 : decode cX4_draw 97 = .ok (.aload_n 0, 1) := by decide +kernel
theorem dX4_draw_98 : decode cX4_draw 98 = .ok (.getfield 29, 3) := by decide +kernel
theorem dX4_draw_101 : decode cX4_draw 101 = .ok (.iload_n 1, 1) := by decide +kernel
theorem dX4_draw_102 : decode cX4_draw 102 = .ok (.dup2, 1) := by decide +kernel
theorem dX4_draw_103 : decode cX4_draw 103 = .ok (.iaload, 1) := by decide +kernel
theorem dX4_draw_104 : decode cX4_draw 104 = .ok (.iload_n 2, 1) := by decide +kernel
theorem dX4_draw_105 : decode cX4_draw 105 = .ok (.isub, 1) := by decide +kernel
theorem dX4_draw_106 : decode cX4_draw 106 = .ok (.iastore, 1) := by decide +kernel
theorem dX4_draw_107 : decode cX4_draw 107 = .ok (.aload_n 0, 1) := by decide +kernel
theorem dX4_draw_108 : decode cX4_draw 108 = .ok (.getfield 26, 3) := by decide +kernel
theorem dX4_draw_111 : decode cX4_draw 111 = .ok (.iload_n 1, 1) := by decide +kernel
theorem dX4_draw_112 : decode cX4_draw 112 = .ok (.iaload, 1) := by decide +kernel
theorem dX4_draw_113 : decode cX4_draw 113 = .ok (.ireturn, 1) := by decide +kernel
set_option maxRecDepth 20000 in
theorem ggX4_setClass_X4_isExposure : GoodIn wsX4_setClass wsX4_isExposure := goodIn_r _ [7, 8, 9, 10, 6, 11, 15, 16, 17, 18, 19, 20, 21, 22, 23, 24, 25, 26, 27, 28, 29, 30, 31, 32, 33, 34, 35, 36, 37] (by decide +kernel) (by decide +kernel)
set_option maxRecDepth 20000 in
theorem gX4_setClass_X4_isExposure : GoodIn wsX4_setClass (wsV RX4 95 RX4 yX4_isExposure wsX4_isExposure) := goodIn_app (goodIn_of _ (by decide +kernel)) ggX4_setClass_X4_isExposure
set_option maxRecDepth 20000 in
theorem ggX4_setClass_X4_isFour : GoodIn wsX4_setClass wsX4_isFour := goodIn_r _ [14, 9, 10, 6, 11] (by decide +kernel) (by decide +kernel)
set_option maxRecDepth 20000 in
theorem gX4_setClass_X4_isFour : GoodIn wsX4_setClass (va_wsS RX4 83 yX4_isFour wsX4_isFour) := goodIn_app (goodIn_of _ (by decide +kernel)) ggX4_setClass_X4_isFour
theorem dX4_setClass_0 : decode cX4_setClass 0 = .ok (.aload_n 0, 1) := by decide +kernel
theorem dX4_setClass_1 : decode cX4_setClass 1 = .ok (.aload_n 0, 1) := by decide +kernel
theorem dX4_setClass_2 : decode cX4_setClass 2 = .ok (.iload_n 1, 1) := by decide +kernel
theorem dX4_setClass_3 : decode cX4_setClass 3 = .ok (.invokevirtual 95, 3) := by decide +kernel
theorem dX4_setClass_6 : decode cX4_setClass 6 = .ok (.ifCond .eq 14, 3) := by decide +kernel
theorem dX4_setClass_9 : decode cX4_setClass 9 = .ok (.iload_n 2, 1) := by decide +kernel
theorem dX4_setClass_10 : decode cX4_setClass 10 = .ok (.invokestatic 83, 3) := by decide +kernel
theorem dX4_setClass_13 : decode cX4_setClass 13 = .ok (.ifCond .eq 7, 3) := by decide +kernel
theorem dX4_setClass_16 : decode cX4_setClass 16 = .ok (.iconst 0, 1) := by decide +kernel
theorem dX4_setClass_17 : decode cX4_setClass 17 = .ok (.goto 4, 3) := by decide +kernel
theorem dX4_setClass_20 : decode cX4_setClass 20 = .ok (.iconst 1, 1) := by decide +kernel
theorem dX4_setClass_21 : decode cX4_setClass 21 = .ok (.putfield 68, 3) := by decide +kernel
theorem dX4_setClass_24 : decode cX4_setClass 24 = .ok (.aload_n 0, 1) := by decide +kernel
theorem dX4_setClass_25 : decode cX4_setClass 25 = .ok (.getfield 68, 3) := by decide +kernel
theorem dX4_setClass_28 : decode cX4_setClass 28 = .ok (.ifCond .le 5, 3) := by decide +kernel
theorem dX4_setClass_31 : decode cX4_setClass 31 = .ok (.iconst 0, 1) := by decide +kernel
theorem dX4_setClass_32 : decode cX4_setClass 32 = .ok (.ireturn, 1) := by decide +kernel
theorem dX4_setClass_33 : decode cX4_setClass 33 = .ok (.aload_n 0, 1) := by decide +kernel
theorem dX4_setClass_34 : decode cX4_setClass 34 = .ok (.getfield 20, 3) := by decide +kernel
theorem dX4_setClass_37 : decode cX4_setClass 37 = .ok (.iload_n 1, 1) := by decide +kernel
theorem dX4_setClass_38 : decode cX4_setClass 38 = .ok (.iaload, 1) := by decide +kernel
theorem dX4_setClass_39 : decode cX4_setClass 39 = .ok (.istore_n 3, 1) := by decide +kernel
theorem dX4_setClass_40 : decode cX4_setClass 40 = .ok (.aload_n 0, 1) := by decide +kernel
theorem dX4_setClass_41 : decode cX4_setClass 41 = .ok (.getfield 20, 3) := by decide +kernel
theorem dX4_setClass_44 : decode cX4_setClass 44 = .ok (.iload_n 1, 1) := by decide +kernel
theorem dX4_setClass_45 : decode cX4_setClass 45 = .ok (.iload_n 2, 1) := by decide +kernel
theorem dX4_setClass_46 : decode cX4_setClass 46 = .ok (.iastore, 1) := by decide +kernel
theorem dX4_setClass_47 : decode cX4_setClass 47 = .ok (.iload_n 3, 1) := by decide +kernel
theorem dX4_setClass_48 : decode cX4_setClass 48 = .ok (.ireturn, 1) := by decide +kernel
set_option maxRecDepth 20000 in
theorem ggX4_guarantee_X4_isExposure : GoodIn wsX4_guarantee wsX4_isExposure := goodIn_r _ [8, 9, 10, 11, 7, 12, 20, 21, 22, 23, 24, 25, 26, 27, 28, 29, 30, 31, 32, 33, 34, 35, 36, 37, 38, 39, 40, 41, 42] (by decide +kernel) (by decide +kernel)
set_option maxRecDepth 20000 in
theorem gX4_guarantee_X4_isExposure : GoodIn wsX4_guarantee (wsV RX4 95 RX4 yX4_isExposure wsX4_isExposure) := goodIn_app (goodIn_of _ (by decide +kernel)) ggX4_guarantee_X4_isExposure
set_option maxRecDepth 20000 in
theorem ggX4_guarantee_X4_isFour : GoodIn wsX4_guarantee wsX4_isFour := goodIn_r _ [15, 10, 11, 7, 12] (by decide +kernel) (by decide +kernel)
set_option maxRecDepth 20000 in
theorem gX4_guarantee_X4_isFour : GoodIn wsX4_guarantee (va_wsS RX4 83 yX4_isFour wsX4_isFour) := goodIn_app (goodIn_of _ (by decide +kernel)) ggX4_guarantee_X4_isFour
set_option maxRecDepth 20000 in
theorem ggX4_guarantee_X4_isSum : GoodIn wsX4_guarantee wsX4_isSum := goodIn_r _ [18, 19, 10, 11, 7, 12] (by decide +kernel) (by decide +kernel)
set_option maxRecDepth 20000 in
theorem gX4_guarantee_X4_isSum : GoodIn wsX4_guarantee (va_wsS RX4 92 yX4_isSum wsX4_isSum) := goodIn_app (goodIn_of _ (by decide +kernel)) ggX4_guarantee_X4_isSum
theorem dX4_guarantee_0 : decode cX4_guarantee 0 = .ok (.aload_n 0, 1) := by decide +kernel
theorem dX4_guarantee_1 : decode cX4_guarantee 1 = .ok (.aload_n 0, 1) := by decide +kernel
theorem dX4_guarantee_2 : decode cX4_guarantee 2 = .ok (.iload_n 1, 1) := by decide +kernel
theorem dX4_guarantee_3 : decode cX4_guarantee 3 = .ok (.invokevirtual 95, 3) := by decide +kernel
theorem dX4_guarantee_6 : decode cX4_guarantee 6 = .ok (.ifCond .eq 10, 3) := by decide +kernel
theorem dX4_guarantee_9 : decode cX4_guarantee 9 = .ok (.iload_n 2, 1) := by decide +kernel
theorem dX4_guarantee_10 : decode cX4_guarantee 10 = .ok (.invokestatic 83, 3) := by decide +kernel
theorem dX4_guarantee_13 : decode cX4_guarantee 13 = .ok (.ifCond .ne 7, 3) := by decide +kernel
theorem dX4_guarantee_16 : decode cX4_guarantee 16 = .ok (.iconst 1, 1) := by decide +kernel
theorem dX4_guarantee_17 : decode cX4_guarantee 17 = .ok (.goto 15, 3) := by decide +kernel
theorem dX4_guarantee_20 : decode cX4_guarantee 20 = .ok (.iload_n 3, 1) := by decide +kernel
theorem dX4_guarantee_21 : decode cX4_guarantee 21 = .ok (.invokestatic 92, 3) := by decide +kernel
theorem dX4_guarantee_24 : decode cX4_guarantee 24 = .ok (.ifCond .eq 7, 3) := by decide +kernel
theorem dX4_guarantee_27 : decode cX4_guarantee 27 = .ok (.iconst 0, 1) := by decide +kernel
theorem dX4_guarantee_28 : decode cX4_guarantee 28 = .ok (.goto 4, 3) := by decide +kernel
theorem dX4_guarantee_31 : decode cX4_guarantee 31 = .ok (.iconst 2, 1) := by decide +kernel
theorem dX4_guarantee_32 : decode cX4_guarantee 32 = .ok (.putfield 68, 3) := by decide +kernel
theorem dX4_guarantee_35 : decode cX4_guarantee 35 = .ok (.aload_n 0, 1) := by decide +kernel
theorem dX4_guarantee_36 : decode cX4_guarantee 36 = .ok (.getfield 68, 3) := by decide +kernel
theorem dX4_guarantee_39 : decode cX4_guarantee 39 = .ok (.ifCond .le 5, 3) := by decide +kernel
theorem dX4_guarantee_42 : decode cX4_guarantee 42 = .ok (.iconst 0, 1) := by decide +kernel
theorem dX4_guarantee_43 : decode cX4_guarantee 43 = .ok (.ireturn, 1) := by decide +kernel
theorem dX4_guarantee_44 : decode cX4_guarantee 44 = .ok (.aload_n 0, 1) := by decide +kernel
theorem dX4_guarantee_45 : decode cX4_guarantee 45 = .ok (.getfield 41, 3) := by decide +kernel
theorem dX4_guarantee_48 : decode cX4_guarantee 48 = .ok (.iload_n 1, 1) := by decide +kernel
theorem dX4_guarantee_49 : decode cX4_guarantee 49 = .ok (.iaload, 1) := by decide +kernel
theorem dX4_guarantee_50 : decode cX4_guarantee 50 = .ok (.istore 4, 2) := by decide +kernel
theorem dX4_guarantee_52 : decode cX4_guarantee 52 = .ok (.aload_n 0, 1) := by decide +kernel
theorem dX4_guarantee_53 : decode cX4_guarantee 53 = .ok (.getfield 38, 3) := by decide +kernel
theorem dX4_guarantee_56 : decode cX4_guarantee 56 = .ok (.iload_n 1, 1) := by decide +kernel
theorem dX4_guarantee_57 : decode cX4_guarantee 57 = .ok (.iload_n 2, 1) := by decide +kernel
theorem dX4_guarantee_58 : decode cX4_guarantee 58 = .ok (.iastore, 1) := by decide +kernel
theorem dX4_guarantee_59 : decode cX4_guarantee 59 = .ok (.aload_n 0, 1) := by decide +kernel
theorem dX4_guarantee_60 : decode cX4_guarantee 60 = .ok (.getfield 41, 3) := by decide +kernel
theorem dX4_guarantee_63 : decode cX4_guarantee 63 = .ok (.iload_n 1, 1) := by decide +kernel
theorem dX4_guarantee_64 : decode cX4_guarantee 64 = .ok (.iload_n 3, 1) := by decide +kernel
theorem dX4_guarantee_65 : decode cX4_guarantee 65 = .ok (.iastore, 1) := by decide +kernel
theorem dX4_guarantee_66 : decode cX4_guarantee 66 = .ok (.iload 4, 2) := by decide +kernel
theorem dX4_guarantee_68 : decode cX4_guarantee 68 = .ok (.ireturn, 1) := by decide +kernel
theorem dX4_exposures_0 : decode cX4_exposures 0 = .ok (.aload_n 0, 1) := by decide +kernel
theorem dX4_exposures_1 : decode cX4_exposures 1 = .ok (.iconst 0, 1) := by decide +kernel
theorem dX4_exposures_2 : decode cX4_exposures 2 = .ok (.putfield 68, 3) := by decide +kernel
theorem dX4_exposures_5 : decode cX4_exposures 5 = .ok (.aload_n 0, 1) := by decide +kernel
theorem dX4_exposures_6 : decode cX4_exposures 6 = .ok (.getfield 75, 3) := by decide +kernel
theorem dX4_exposures_9 : decode cX4_exposures 9 = .ok (.ireturn, 1) := by decide +kernel
set_option maxRecDepth 20000 in
theorem ggX4_amounts_X4_percent : GoodIn wsX4_amounts wsX4_percent := goodIn_r _ [6, 7] (by decide +kernel) (by decide +kernel)
set_option maxRecDepth 20000 in
theorem gX4_amounts_X4_percent : GoodIn wsX4_amounts (va_wsS RX4 99 yX4_percent wsX4_percent) := goodIn_app (goodIn_of _ (by decide +kernel)) ggX4_amounts_X4_percent
theorem dX4_amounts_0 : decode cX4_amounts 0 = .ok (.aload_n 0, 1) := by decide +kernel
theorem dX4_amounts_1 : decode cX4_amounts 1 = .ok (.getfield 26, 3) := by decide +kernel
theorem dX4_amounts_4 : decode cX4_amounts 4 = .ok (.iload_n 1, 1) := by decide +kernel
theorem dX4_amounts_5 : decode cX4_amounts 5 = .ok (.iaload, 1) := by decide +kernel
theorem dX4_amounts_6 : decode cX4_amounts 6 = .ok (.aload_n 0, 1) := by decide +kernel
theorem dX4_amounts_7 : decode cX4_amounts 7 = .ok (.getfield 29, 3) := by decide +kernel
theorem dX4_amounts_10 : decode cX4_amounts 10 = .ok (.iload_n 1, 1) := by decide +kernel
theorem dX4_amounts_11 : decode cX4_amounts 11 = .ok (.iaload, 1) := by decide +kernel
theorem dX4_amounts_12 : decode cX4_amounts 12 = .ok (.bipush 40, 2) := by decide +kernel
theorem dX4_amounts_14 : decode cX4_amounts 14 = .ok (.invokestatic 99, 3) := by decide +kernel
theorem dX4_amounts_17 : decode cX4_amounts 17 = .ok (.iadd, 1) := by decide +kernel
theorem dX4_amounts_18 : decode cX4_amounts 18 = .ok (.ireturn, 1) := by decide +kernel
set_option maxRecDepth 20000 in
theorem ggX4_amount_X4_isExposure : GoodIn wsX4_amount wsX4_isExposure := goodIn_r _ [6, 7, 8, 9, 5, 10, 21, 22, 23, 24, 25, 26, 27, 28, 29, 30, 31, 32, 33, 34, 35, 36, 37, 38, 39, 40, 41, 42, 43] (by decide +kernel) (by decide +kernel)
set_option maxRecDepth 20000 in
theorem gX4_amount_X4_isExposure : GoodIn wsX4_amount (wsV RX4 95 RX4 yX4_isExposure wsX4_isExposure) := goodIn_app (goodIn_of _ (by decide +kernel)) ggX4_amount_X4_isExposure
set_option maxRecDepth 20000 in
theorem ggX4_amount_X4_amounts : GoodIn wsX4_amount wsX4_amounts := goodIn_r _ [14, 15, 16, 17, 18, 5, 19, 20, 21, 22, 23, 24, 25, 26, 27, 28, 29, 30, 31, 32, 33, 34, 35, 36, 37, 38, 39, 40, 41, 42, 43] (by decide +kernel) (by decide +kernel)
set_option maxRecDepth 20000 in
theorem gX4_amount_X4_amounts : GoodIn wsX4_amount (wsV RX4 103 RX4 yX4_amounts wsX4_amounts) := goodIn_app (goodIn_of _ (by decide +kernel)) ggX4_amount_X4_amounts
theorem dX4_amount_0 : decode cX4_amount 0 = .ok (.aload_n 0, 1) := by decide +kernel
theorem dX4_amount_1 : decode cX4_amount 1 = .ok (.aload_n 0, 1) := by decide +kernel
theorem dX4_amount_2 : decode cX4_amount 2 = .ok (.iload_n 1, 1) := by decide +kernel
theorem dX4_amount_3 : decode cX4_amount 3 = .ok (.invokevirtual 95, 3) := by decide +kernel
theorem dX4_amount_6 : decode cX4_amount 6 = .ok (.ifCond .eq 7, 3) := by decide +kernel
theorem dX4_amount_9 : decode cX4_amount 9 = .ok (.iconst 0, 1) := by decide +kernel
theorem dX4_amount_10 : decode cX4_amount 10 = .ok (.goto 4, 3) := by decide +kernel
theorem dX4_amount_13 : decode cX4_amount 13 = .ok (.iconst 1, 1) := by decide +kernel
theorem dX4_amount_14 : decode cX4_amount 14 = .ok (.putfield 68, 3) := by decide +kernel
theorem dX4_amount_17 : decode cX4_amount 17 = .ok (.aload_n 0, 1) := by decide +kernel
theorem dX4_amount_18 : decode cX4_amount 18 = .ok (.getfield 68, 3) := by decide +kernel
theorem dX4_amount_21 : decode cX4_amount 21 = .ok (.ifCond .le 7, 3) := by decide +kernel
theorem dX4_amount_24 : decode cX4_amount 24 = .ok (.iconst 0, 1) := by decide +kernel
theorem dX4_amount_25 : decode cX4_amount 25 = .ok (.goto 8, 3) := by decide +kernel
theorem dX4_amount_28 : decode cX4_amount 28 = .ok (.aload_n 0, 1) := by decide +kernel
theorem dX4_amount_29 : decode cX4_amount 29 = .ok (.iload_n 1, 1) := by decide +kernel
theorem dX4_amount_30 : decode cX4_amount 30 = .ok (.invokevirtual 103, 3) := by decide +kernel
theorem dX4_amount_33 : decode cX4_amount 33 = .ok (.ireturn, 1) := by decide +kernel
set_option maxRecDepth 20000 in
theorem ggX4_addPiece_X4_isIn : GoodIn wsX4_addPiece wsX4_isIn := goodIn_r _ [12] (by decide +kernel) (by decide +kernel)
set_option maxRecDepth 20000 in
theorem gX4_addPiece_X4_isIn : GoodIn wsX4_addPiece (va_wsS RX4 71 yX4_isIn wsX4_isIn) := goodIn_app (goodIn_of _ (by decide +kernel)) ggX4_addPiece_X4_isIn
theorem dX4_addPiece_0 : decode cX4_addPiece 0 = .ok (.iload_n 1, 1) := by decide +kernel
theorem dX4_addPiece_1 : decode cX4_addPiece 1 = .ok (.iconst 1, 1) := by decide +kernel
theorem dX4_addPiece_2 : decode cX4_addPiece 2 = .ok (.ldc 91, 2) := by decide +kernel
theorem dX4_addPiece_4 : decode cX4_addPiece 4 = .ok (.invokestatic 71, 3) := by decide +kernel
theorem dX4_addPiece_7 : decode cX4_addPiece 7 = .ok (.ifCond .eq 50, 3) := by decide +kernel
theorem dX4_addPiece_10 : decode cX4_addPiece 10 = .ok (.iload_n 2, 1) := by decide +kernel
theorem dX4_addPiece_11 : decode cX4_addPiece 11 = .ok (.iconst 0, 1) := by decide +kernel
theorem dX4_addPiece_12 : decode cX4_addPiece 12 = .ok (.bipush 100, 2) := by decide +kernel
theorem dX4_addPiece_14 : decode cX4_addPiece 14 = .ok (.invokestatic 71, 3) := by decide +kernel
theorem dX4_addPiece_17 : decode cX4_addPiece 17 = .ok (.ifCond .eq 40, 3) := by decide +kernel
theorem dX4_addPiece_20 : decode cX4_addPiece 20 = .ok (.iload_n 3, 1) := by decide +kernel
theorem dX4_addPiece_21 : decode cX4_addPiece 21 = .ok (.iconst 0, 1) := by decide +kernel
theorem dX4_addPiece_22 : decode cX4_addPiece 22 = .ok (.iconst 2, 1) := by decide +kernel
theorem dX4_addPiece_23 : decode cX4_addPiece 23 = .ok (.invokestatic 71, 3) := by decide +kernel
theorem dX4_addPiece_26 : decode cX4_addPiece 26 = .ok (.ifCond .eq 31, 3) := by decide +kernel
theorem dX4_addPiece_29 : decode cX4_addPiece 29 = .ok (.iload 4, 2) := by decide +kernel
theorem dX4_addPiece_31 : decode cX4_addPiece 31 = .ok (.iconst 1, 1) := by decide +kernel
theorem dX4_addPiece_32 : decode cX4_addPiece 32 = .ok (.sipush 3650, 3) := by decide +kernel
theorem dX4_addPiece_35 : decode cX4_addPiece 35 = .ok (.invokestatic 71, 3) := by decide +kernel
theorem dX4_addPiece_38 : decode cX4_addPiece 38 = .ok (.ifCond .eq 19, 3) := by decide +kernel
theorem dX4_addPiece_41 : decode cX4_addPiece 41 = .ok (.iload 5, 2) := by decide +kernel
theorem dX4_addPiece_43 : decode cX4_addPiece 43 = .ok (.iconst 0, 1) := by decide +kernel
theorem dX4_addPiece_44 : decode cX4_addPiece 44 = .ok (.sipush 255, 3) := by decide +kernel
theorem dX4_addPiece_47 : decode cX4_addPiece 47 = .ok (.invokestatic 71, 3) := by decide +kernel
theorem dX4_addPiece_50 : decode cX4_addPiece 50 = .ok (.ifCond .eq 7, 3) := by decide +kernel
theorem dX4_addPiece_53 : decode cX4_addPiece 53 = .ok (.iconst 1, 1) := by decide +kernel
theorem dX4_addPiece_54 : decode cX4_addPiece 54 = .ok (.goto 4, 3) := by decide +kernel
theorem dX4_addPiece_57 : decode cX4_addPiece 57 = .ok (.iconst 0, 1) := by decide +kernel
theorem dX4_addPiece_58 : decode cX4_addPiece 58 = .ok (.istore 6, 2) := by decide +kernel
theorem dX4_addPiece_60 : decode cX4_addPiece 60 = .ok (.aload_n 0, 1) := by decide +kernel
theorem dX4_addPiece_61 : decode cX4_addPiece 61 = .ok (.iload 6, 2) := by decide +kernel
theorem dX4_addPiece_63 : decode cX4_addPiece 63 = .ok (.ifCond .ne 7, 3) := by decide +kernel
theorem dX4_addPiece_66 : decode cX4_addPiece 66 = .ok (.iconst 1, 1) := by decide +kernel
theorem dX4_addPiece_67 : decode cX4_addPiece 67 = .ok (.goto 16, 3) := by decide +kernel
theorem dX4_addPiece_70 : decode cX4_addPiece 70 = .ok (.aload_n 0, 1) := by decide +kernel
theorem dX4_addPiece_71 : decode cX4_addPiece 71 = .ok (.getfield 78, 3) := by decide +kernel
theorem dX4_addPiece_74 : decode cX4_addPiece 74 = .ok (.iconst 5, 1) := by decide +kernel
theorem dX4_addPiece_75 : decode cX4_addPiece 75 = .ok (.if_icmp .ne 7, 3) := by decide +kernel
theorem dX4_addPiece_78 : decode cX4_addPiece 78 = .ok (.iconst 2, 1) := by decide +kernel
theorem dX4_addPiece_79 : decode cX4_addPiece 79 = .ok (.goto 4, 3) := by decide +kernel
theorem dX4_addPiece_82 : decode cX4_addPiece 82 = .ok (.iconst 0, 1) := by decide +kernel
theorem dX4_addPiece_83 : decode cX4_addPiece 83 = .ok (.putfield 68, 3) := by decide +kernel
theorem dX4_addPiece_86 : decode cX4_addPiece 86 = .ok (.aload_n 0, 1) := by decide +kernel
theorem dX4_addPiece_87 : decode cX4_addPiece 87 = .ok (.getfield 68, 3) := by decide +kernel
theorem dX4_addPiece_90 : decode cX4_addPiece 90 = .ok (.ifCond .le 5, 3) := by decide +kernel
theorem dX4_addPiece_93 : decode cX4_addPiece 93 = .ok (.iconst 0, 1) := by decide +kernel
theorem dX4_addPiece_94 : decode cX4_addPiece 94 = .ok (.ireturn, 1) := by decide +kernel
theorem dX4_addPiece_95 : decode cX4_addPiece 95 = .ok (.aload_n 0, 1) := by decide +kernel
theorem dX4_addPiece_96 : decode cX4_addPiece 96 = .ok (.getfield 44, 3) := by decide +kernel
theorem dX4_addPiece_99 : decode cX4_addPiece 99 = .ok (.aload_n 0, 1) := by decide +kernel
theorem dX4_addPiece_100 : decode cX4_addPiece 100 = .ok (.getfield 78, 3) := by decide +kernel
theorem dX4_addPiece_103 : decode cX4_addPiece 103 = .ok (.iload_n 1, 1) := by decide +kernel
theorem dX4_addPiece_104 : decode cX4_addPiece 104 = .ok (.iastore, 1) := by decide +kernel
theorem dX4_addPiece_105 : decode cX4_addPiece 105 = .ok (.aload_n 0, 1) := by decide +kernel
theorem dX4_addPiece_106 : decode cX4_addPiece 106 = .ok (.getfield 47, 3) := by decide +kernel
theorem dX4_addPiece_109 : decode cX4_addPiece 109 = .ok (.aload_n 0, 1) := by decide +kernel
theorem dX4_addPiece_110 : decode cX4_addPiece 110 = .ok (.getfield 78, 3) := by decide +kernel
theorem dX4_addPiece_113 : decode cX4_addPiece 113 = .ok (.iload_n 2, 1) := by decide +kernel
theorem dX4_addPiece_114 : decode cX4_addPiece 114 = .ok (.iastore, 1) := by decide +kernel
theorem dX4_addPiece_115 : decode cX4_addPiece 115 = .ok (.aload_n 0, 1) := by decide +kernel
theorem dX4_addPiece_116 : decode cX4_addPiece 116 = .ok (.getfield 50, 3) := by decide +kernel
theorem dX4_addPiece_119 : decode cX4_addPiece 119 = .ok (.aload_n 0, 1) := by decide +kernel
theorem dX4_addPiece_120 : decode cX4_addPiece 120 = .ok (.getfield 78, 3) := by decide +kernel
theorem dX4_addPiece_123 : decode cX4_addPiece 123 = .ok (.iload_n 3, 1) := by decide +kernel
theorem dX4_addPiece_124 : decode cX4_addPiece 124 = .ok (.iastore, 1) := by decide +kernel
theorem dX4_addPiece_125 : decode cX4_addPiece 125 = .ok (.aload_n 0, 1) := by decide +kernel
theorem dX4_addPiece_126 : decode cX4_addPiece 126 = .ok (.getfield 53, 3) := by decide +kernel
theorem dX4_addPiece_129 : decode cX4_addPiece 129 = .ok (.aload_n 0, 1) := by decide +kernel
theorem dX4_addPiece_130 : decode cX4_addPiece 130 = .ok (.getfield 78, 3) := by decide +kernel
theorem dX4_addPiece_133 : decode cX4_addPiece 133 = .ok (.iload 4, 2) := by decide +kernel
theorem dX4_addPiece_135 : decode cX4_addPiece 135 = .ok (.iastore, 1) := by decide +kernel
theorem dX4_addPiece_136 : decode cX4_addPiece 136 = .ok (.aload_n 0, 1) := by decide +kernel
theorem dX4_addPiece_137 : decode cX4_addPiece 137 = .ok (.getfield 56, 3) := by decide +kernel
theorem dX4_addPiece_140 : decode cX4_addPiece 140 = .ok (.aload_n 0, 1) := by decide +kernel
theorem dX4_addPiece_141 : decode cX4_addPiece 141 = .ok (.getfield 78, 3) := by decide +kernel
theorem dX4_addPiece_144 : decode cX4_addPiece 144 = .ok (.iload 5, 2) := by decide +kernel
theorem dX4_addPiece_146 : decode cX4_addPiece 146 = .ok (.iastore, 1) := by decide +kernel
theorem dX4_addPiece_147 : decode cX4_addPiece 147 = .ok (.aload_n 0, 1) := by decide +kernel
theorem dX4_addPiece_148 : decode cX4_addPiece 148 = .ok (.dup, 1) := by decide +kernel
theorem dX4_addPiece_149 : decode cX4_addPiece 149 = .ok (.getfield 78, 3) := by decide +kernel
theorem dX4_addPiece_152 : decode cX4_addPiece 152 = .ok (.iconst 1, 1) := by decide +kernel
theorem dX4_addPiece_153 : decode cX4_addPiece 153 = .ok (.iadd, 1) := by decide +kernel
theorem dX4_addPiece_154 : decode cX4_addPiece 154 = .ok (.putfield 78, 3) := by decide +kernel
theorem dX4_addPiece_157 : decode cX4_addPiece 157 = .ok (.aload_n 0, 1) := by decide +kernel
theorem dX4_addPiece_158 : decode cX4_addPiece 158 = .ok (.getfield 78, 3) := by decide +kernel
theorem dX4_addPiece_161 : decode cX4_addPiece 161 = .ok (.iconst 1, 1) := by decide +kernel
theorem dX4_addPiece_162 : decode cX4_addPiece 162 = .ok (.isub, 1) := by decide +kernel
theorem dX4_addPiece_163 : decode cX4_addPiece 163 = .ok (.ireturn, 1) := by decide +kernel
set_option maxRecDepth 20000 in
theorem ggX4_setPiece_X4_isPiece : GoodIn wsX4_setPiece wsX4_isPiece := goodIn_r _ [9, 10, 11, 12, 8, 13, 14, 15, 16, 17, 18, 19, 20, 21, 22, 23, 24, 25, 26, 27, 28, 29, 30, 31, 32, 33, 34, 35, 36] (by decide +kernel) (by decide +kernel)
set_option maxRecDepth 20000 in
theorem gX4_setPiece_X4_isPiece : GoodIn wsX4_setPiece (wsV RX4 107 RX4 yX4_isPiece wsX4_isPiece) := goodIn_app (goodIn_of _ (by decide +kernel)) ggX4_setPiece_X4_isPiece
set_option maxRecDepth 20000 in
theorem ggX4_setPiece_X4_isIn : GoodIn wsX4_setPiece wsX4_isIn := goodIn_r _ [13] (by decide +kernel) (by decide +kernel)
set_option maxRecDepth 20000 in
theorem gX4_setPiece_X4_isIn : GoodIn wsX4_setPiece (va_wsS RX4 71 yX4_isIn wsX4_isIn) := goodIn_app (goodIn_of _ (by decide +kernel)) ggX4_setPiece_X4_isIn
theorem dX4_setPiece_0 : decode cX4_setPiece 0 = .ok (.aload_n 0, 1) := by decide +kernel
theorem dX4_setPiece_1 : decode cX4_setPiece 1 = .ok (.aload_n 0, 1) := by decide +kernel
theorem dX4_setPiece_2 : decode cX4_setPiece 2 = .ok (.iload_n 1, 1) := by decide +kernel
theorem dX4_setPiece_3 : decode cX4_setPiece 3 = .ok (.invokevirtual 107, 3) := by decide +kernel
theorem dX4_setPiece_6 : decode cX4_setPiece 6 = .ok (.ifCond .ne 7, 3) := by decide +kernel
theorem dX4_setPiece_9 : decode cX4_setPiece 9 = .ok (.iconst 1, 1) := by decide +kernel
theorem dX4_setPiece_10 : decode cX4_setPiece 10 = .ok (.goto 29, 3) := by decide +kernel
theorem dX4_setPiece_13 : decode cX4_setPiece 13 = .ok (.iload_n 2, 1) := by decide +kernel
theorem dX4_setPiece_14 : decode cX4_setPiece 14 = .ok (.iconst 1, 1) := by decide +kernel
theorem dX4_setPiece_15 : decode cX4_setPiece 15 = .ok (.ldc 91, 2) := by decide +kernel
theorem dX4_setPiece_17 : decode cX4_setPiece 17 = .ok (.invokestatic 71, 3) := by decide +kernel
theorem dX4_setPiece_20 : decode cX4_setPiece 20 = .ok (.ifCond .eq 18, 3) := by decide +kernel
theorem dX4_setPiece_23 : decode cX4_setPiece 23 = .ok (.iload_n 3, 1) := by decide +kernel
theorem dX4_setPiece_24 : decode cX4_setPiece 24 = .ok (.iconst 0, 1) := by decide +kernel
theorem dX4_setPiece_25 : decode cX4_setPiece 25 = .ok (.sipush 255, 3) := by decide +kernel
theorem dX4_setPiece_28 : decode cX4_setPiece 28 = .ok (.invokestatic 71, 3) := by decide +kernel
theorem dX4_setPiece_31 : decode cX4_setPiece 31 = .ok (.ifCond .eq 7, 3) := by decide +kernel
theorem dX4_setPiece_34 : decode cX4_setPiece 34 = .ok (.iconst 0, 1) := by decide +kernel
theorem dX4_setPiece_35 : decode cX4_setPiece 35 = .ok (.goto 4, 3) := by decide +kernel
theorem dX4_setPiece_38 : decode cX4_setPiece 38 = .ok (.iconst 2, 1) := by decide +kernel
theorem dX4_setPiece_39 : decode cX4_setPiece 39 = .ok (.putfield 68, 3) := by decide +kernel
theorem dX4_setPiece_42 : decode cX4_setPiece 42 = .ok (.aload_n 0, 1) := by decide +kernel
theorem dX4_setPiece_43 : decode cX4_setPiece 43 = .ok (.getfield 68, 3) := by decide +kernel
theorem dX4_setPiece_46 : decode cX4_setPiece 46 = .ok (.ifCond .le 5, 3) := by decide +kernel
theorem dX4_setPiece_49 : decode cX4_setPiece 49 = .ok (.iconst 0, 1) := by decide +kernel
theorem dX4_setPiece_50 : decode cX4_setPiece 50 = .ok (.ireturn, 1) := by decide +kernel
theorem dX4_setPiece_51 : decode cX4_setPiece 51 = .ok (.aload_n 0, 1) := by decide +kernel
theorem dX4_setPiece_52 : decode cX4_setPiece 52 = .ok (.getfield 44, 3) := by decide +kernel
theorem dX4_setPiece_55 : decode cX4_setPiece 55 = .ok (.iload_n 1, 1) := by decide +kernel
theorem dX4_setPiece_56 : decode cX4_setPiece 56 = .ok (.iaload, 1) := by decide +kernel
theorem dX4_setPiece_57 : decode cX4_setPiece 57 = .ok (.istore 4, 2) := by decide +kernel
theorem dX4_setPiece_59 : decode cX4_setPiece 59 = .ok (.aload_n 0, 1) := by decide +kernel
theorem dX4_setPiece_60 : decode cX4_setPiece 60 = .ok (.getfield 44, 3) := by decide +kernel
theorem dX4_setPiece_63 : decode cX4_setPiece 63 = .ok (.iload_n 1, 1) := by decide +kernel
theorem dX4_setPiece_64 : decode cX4_setPiece 64 = .ok (.iload_n 2, 1) := by decide +kernel
theorem dX4_setPiece_65 : decode cX4_setPiece 65 = .ok (.iastore, 1) := by decide +kernel
theorem dX4_setPiece_66 : decode cX4_setPiece 66 = .ok (.aload_n 0, 1) := by decide +kernel
theorem dX4_setPiece_67 : decode cX4_setPiece 67 = .ok (.getfield 56, 3) := by decide +kernel
theorem dX4_setPiece_70 : decode cX4_setPiece 70 = .ok (.iload_n 1, 1) := by decide +kernel
theorem dX4_setPiece_71 : decode cX4_setPiece 71 = .ok (.iload_n 3, 1) := by decide +kernel
theorem dX4_setPiece_72 : decode cX4_setPiece 72 = .ok (.iastore, 1) := by decide +kernel
theorem dX4_setPiece_73 : decode cX4_setPiece 73 = .ok (.iload 4, 2) := by decide +kernel
theorem dX4_setPiece_75 : decode cX4_setPiece 75 = .ok (.ireturn, 1) := by decide +kernel
theorem dX4_pieces_0 : decode cX4_pieces 0 = .ok (.aload_n 0, 1) := by decide +kernel
theorem dX4_pieces_1 : decode cX4_pieces 1 = .ok (.iconst 0, 1) := by decide +kernel
theorem dX4_pieces_2 : decode cX4_pieces 2 = .ok (.putfield 68, 3) := by decide +kernel
theorem dX4_pieces_5 : decode cX4_pieces 5 = .ok (.aload_n 0, 1) := by decide +kernel
theorem dX4_pieces_6 : decode cX4_pieces 6 = .ok (.getfield 78, 3) := by decide +kernel
theorem dX4_pieces_9 : decode cX4_pieces 9 = .ok (.ireturn, 1) := by decide +kernel
set_option maxRecDepth 20000 in
theorem ggX4_valued_X4_percent : GoodIn wsX4_valued wsX4_percent := goodIn_r _ [10, 11] (by decide +kernel) (by decide +kernel)
set_option maxRecDepth 20000 in
theorem gX4_valued_X4_percent : GoodIn wsX4_valued (va_wsS RX4 99 yX4_percent wsX4_percent) := goodIn_app (goodIn_of _ (by decide +kernel)) ggX4_valued_X4_percent
theorem dX4_valued_0 : decode cX4_valued 0 = .ok (.aload_n 0, 1) := by decide +kernel
theorem dX4_valued_1 : decode cX4_valued 1 = .ok (.getfield 44, 3) := by decide +kernel
theorem dX4_valued_4 : decode cX4_valued 4 = .ok (.iload_n 1, 1) := by decide +kernel
theorem dX4_valued_5 : decode cX4_valued 5 = .ok (.iaload, 1) := by decide +kernel
theorem dX4_valued_6 : decode cX4_valued 6 = .ok (.bipush 100, 2) := by decide +kernel
theorem dX4_valued_8 : decode cX4_valued 8 = .ok (.aload_n 0, 1) := by decide +kernel
theorem dX4_valued_9 : decode cX4_valued 9 = .ok (.getfield 47, 3) := by decide +kernel
theorem dX4_valued_12 : decode cX4_valued 12 = .ok (.iload_n 1, 1) := by decide +kernel
theorem dX4_valued_13 : decode cX4_valued 13 = .ok (.iaload, 1) := by decide +kernel
theorem dX4_valued_14 : decode cX4_valued 14 = .ok (.isub, 1) := by decide +kernel
theorem dX4_valued_15 : decode cX4_valued 15 = .ok (.invokestatic 99, 3) := by decide +kernel
theorem dX4_valued_18 : decode cX4_valued 18 = .ok (.istore_n 3, 1) := by decide +kernel
theorem dX4_valued_19 : decode cX4_valued 19 = .ok (.aload_n 0, 1) := by decide +kernel
theorem dX4_valued_20 : decode cX4_valued 20 = .ok (.getfield 50, 3) := by decide +kernel
theorem dX4_valued_23 : decode cX4_valued 23 = .ok (.iload_n 1, 1) := by decide +kernel
theorem dX4_valued_24 : decode cX4_valued 24 = .ok (.iaload, 1) := by decide +kernel
theorem dX4_valued_25 : decode cX4_valued 25 = .ok (.aload_n 0, 1) := by decide +kernel
theorem dX4_valued_26 : decode cX4_valued 26 = .ok (.getfield 32, 3) := by decide +kernel
theorem dX4_valued_29 : decode cX4_valued 29 = .ok (.iload_n 2, 1) := by decide +kernel
theorem dX4_valued_30 : decode cX4_valued 30 = .ok (.iaload, 1) := by decide +kernel
theorem dX4_valued_31 : decode cX4_valued 31 = .ok (.if_icmp .ne 7, 3) := by decide +kernel
theorem dX4_valued_34 : decode cX4_valued 34 = .ok (.iload_n 3, 1) := by decide +kernel
theorem dX4_valued_35 : decode cX4_valued 35 = .ok (.goto 9, 3) := by decide +kernel
theorem dX4_valued_38 : decode cX4_valued 38 = .ok (.iload_n 3, 1) := by decide +kernel
theorem dX4_valued_39 : decode cX4_valued 39 = .ok (.bipush 92, 2) := by decide +kernel
theorem dX4_valued_41 : decode cX4_valued 41 = .ok (.invokestatic 99, 3) := by decide +kernel
theorem dX4_valued_44 : decode cX4_valued 44 = .ok (.istore_n 3, 1) := by decide +kernel
theorem dX4_valued_45 : decode cX4_valued 45 = .ok (.aload_n 0, 1) := by decide +kernel
theorem dX4_valued_46 : decode cX4_valued 46 = .ok (.getfield 53, 3) := by decide +kernel
theorem dX4_valued_49 : decode cX4_valued 49 = .ok (.iload_n 1, 1) := by decide +kernel
theorem dX4_valued_50 : decode cX4_valued 50 = .ok (.iaload, 1) := by decide +kernel
theorem dX4_valued_51 : decode cX4_valued 51 = .ok (.aload_n 0, 1) := by decide +kernel
theorem dX4_valued_52 : decode cX4_valued 52 = .ok (.getfield 35, 3) := by decide +kernel
theorem dX4_valued_55 : decode cX4_valued 55 = .ok (.iload_n 2, 1) := by decide +kernel
theorem dX4_valued_56 : decode cX4_valued 56 = .ok (.iaload, 1) := by decide +kernel
theorem dX4_valued_57 : decode cX4_valued 57 = .ok (.if_icmp .ge 25, 3) := by decide +kernel
theorem dX4_valued_60 : decode cX4_valued 60 = .ok (.iload_n 3, 1) := by decide +kernel
theorem dX4_valued_61 : decode cX4_valued 61 = .ok (.i2l, 1) := by decide +kernel
theorem dX4_valued_62 : decode cX4_valued 62 = .ok (.aload_n 0, 1) := by decide +kernel
theorem dX4_valued_63 : decode cX4_valued 63 = .ok (.getfield 53, 3) := by decide +kernel
theorem dX4_valued_66 : decode cX4_valued 66 = .ok (.iload_n 1, 1) := by decide +kernel
theorem dX4_valued_67 : decode cX4_valued 67 = .ok (.iaload, 1) := by decide +kernel
theorem dX4_valued_68 : decode cX4_valued 68 = .ok (.i2l, 1) := by decide +kernel
theorem dX4_valued_69 : decode cX4_valued 69 = .ok (.lmul, 1) := by decide +kernel
theorem dX4_valued_70 : decode cX4_valued 70 = .ok (.aload_n 0, 1) := by decide +kernel
theorem dX4_valued_71 : decode cX4_valued 71 = .ok (.getfield 35, 3) := by decide +kernel
theorem dX4_valued_74 : decode cX4_valued 74 = .ok (.iload_n 2, 1) := by decide +kernel
theorem dX4_valued_75 : decode cX4_valued 75 = .ok (.iaload, 1) := by decide +kernel
theorem dX4_valued_76 : decode cX4_valued 76 = .ok (.i2l, 1) := by decide +kernel
theorem dX4_valued_77 : decode cX4_valued 77 = .ok (.ldiv, 1) := by decide +kernel
theorem dX4_valued_78 : decode cX4_valued 78 = .ok (.l2i, 1) := by decide +kernel
theorem dX4_valued_79 : decode cX4_valued 79 = .ok (.goto 4, 3) := by decide +kernel
theorem dX4_valued_82 : decode cX4_valued 82 = .ok (.iload_n 3, 1) := by decide +kernel
theorem dX4_valued_83 : decode cX4_valued 83 = .ok (.ireturn, 1) := by decide +kernel
set_option maxRecDepth 20000 in
theorem ggX4_value_X4_isPiece : GoodIn wsX4_value wsX4_isPiece := goodIn_r _ [6, 7, 8, 9, 5, 10, 30, 31, 32, 33, 34, 35, 36, 37, 38, 39, 40, 41, 42, 43, 44, 45, 46, 47, 48, 49, 50, 51, 52] (by decide +kernel) (by decide +kernel)
set_option maxRecDepth 20000 in
theorem gX4_value_X4_isPiece : GoodIn wsX4_value (wsV RX4 107 RX4 yX4_isPiece wsX4_isPiece) := goodIn_app (goodIn_of _ (by decide +kernel)) ggX4_value_X4_isPiece
set_option maxRecDepth 20000 in
theorem ggX4_value_X4_isExposure : GoodIn wsX4_value wsX4_isExposure := goodIn_r _ [14, 15, 8, 9, 5, 10, 30, 31, 32, 33, 34, 35, 36, 37, 38, 39, 40, 41, 42, 43, 44, 45, 46, 47, 48, 49, 50, 51, 52] (by decide +kernel) (by decide +kernel)
set_option maxRecDepth 20000 in
theorem gX4_value_X4_isExposure : GoodIn wsX4_value (wsV RX4 95 RX4 yX4_isExposure wsX4_isExposure) := goodIn_app (goodIn_of _ (by decide +kernel)) ggX4_value_X4_isExposure
set_option maxRecDepth 20000 in
theorem ggX4_value_X4_valued : GoodIn wsX4_value wsX4_valued := goodIn_r _ [19, 20, 21, 22, 23, 24, 25, 26, 27, 5, 28, 29, 30, 31, 32, 33, 34, 35, 36, 37, 38, 39, 40, 41, 42, 43, 44, 45, 46, 47, 48, 49, 50, 51, 52] (by decide +kernel) (by decide +kernel)
set_option maxRecDepth 20000 in
theorem gX4_value_X4_valued : GoodIn wsX4_value (wsV RX4 110 RX4 yX4_valued wsX4_valued) := goodIn_app (goodIn_of _ (by decide +kernel)) ggX4_value_X4_valued
theorem dX4_value_0 : decode cX4_value 0 = .ok (.aload_n 0, 1) := by decide +kernel
theorem dX4_value_1 : decode cX4_value 1 = .ok (.aload_n 0, 1) := by decide +kernel
theorem dX4_value_2 : decode cX4_value 2 = .ok (.iload_n 1, 1) := by decide +kernel
theorem dX4_value_3 : decode cX4_value 3 = .ok (.invokevirtual 107, 3) := by decide +kernel
theorem dX4_value_6 : decode cX4_value 6 = .ok (.ifCond .eq 15, 3) := by decide +kernel
theorem dX4_value_9 : decode cX4_value 9 = .ok (.aload_n 0, 1) := by decide +kernel
theorem dX4_value_10 : decode cX4_value 10 = .ok (.iload_n 2, 1) := by decide +kernel
theorem dX4_value_11 : decode cX4_value 11 = .ok (.invokevirtual 95, 3) := by decide +kernel
theorem dX4_value_14 : decode cX4_value 14 = .ok (.ifCond .eq 7, 3) := by decide +kernel
theorem dX4_value_17 : decode cX4_value 17 = .ok (.iconst 0, 1) := by decide +kernel
theorem dX4_value_18 : decode cX4_value 18 = .ok (.goto 4, 3) := by decide +kernel
theorem dX4_value_21 : decode cX4_value 21 = .ok (.iconst 1, 1) := by decide +kernel
theorem dX4_value_22 : decode cX4_value 22 = .ok (.putfield 68, 3) := by decide +kernel
theorem dX4_value_25 : decode cX4_value 25 = .ok (.aload_n 0, 1) := by decide +kernel
theorem dX4_value_26 : decode cX4_value 26 = .ok (.getfield 68, 3) := by decide +kernel
theorem dX4_value_29 : decode cX4_value 29 = .ok (.ifCond .le 7, 3) := by decide +kernel
theorem dX4_value_32 : decode cX4_value 32 = .ok (.iconst 0, 1) := by decide +kernel
theorem dX4_value_33 : decode cX4_value 33 = .ok (.goto 9, 3) := by decide +kernel
theorem dX4_value_36 : decode cX4_value 36 = .ok (.aload_n 0, 1) := by decide +kernel
theorem dX4_value_37 : decode cX4_value 37 = .ok (.iload_n 1, 1) := by decide +kernel
theorem dX4_value_38 : decode cX4_value 38 = .ok (.iload_n 2, 1) := by decide +kernel
theorem dX4_value_39 : decode cX4_value 39 = .ok (.invokevirtual 110, 3) := by decide +kernel
theorem dX4_value_42 : decode cX4_value 42 = .ok (.ireturn, 1) := by decide +kernel
set_option maxRecDepth 20000 in
theorem ggX4_bared_X4_amounts : GoodIn wsX4_bared wsX4_amounts := goodIn_r _ [6, 7, 8, 9, 10, 5, 11, 12, 23, 24, 25, 26, 27, 28, 29, 30, 31, 32, 33, 34, 35, 36, 37, 38, 39, 40, 41, 42, 43, 44, 45] (by decide +kernel) (by decide +kernel)
set_option maxRecDepth 20000 in
theorem gX4_bared_X4_amounts : GoodIn wsX4_bared (wsV RX4 103 RX4 yX4_amounts wsX4_amounts) := goodIn_app (goodIn_of _ (by decide +kernel)) ggX4_bared_X4_amounts
set_option maxRecDepth 20000 in
theorem ggX4_bared_X4_valued : GoodIn wsX4_bared wsX4_valued := goodIn_r _ [16, 17, 18, 19, 20, 21, 22, 9, 10, 5, 11, 12, 23, 24, 25, 26, 27, 28, 29, 30, 31, 32, 33, 34, 35, 36, 37, 38, 39, 40, 41, 42, 43, 44, 45] (by decide +kernel) (by decide +kernel)
set_option maxRecDepth 20000 in
theorem gX4_bared_X4_valued : GoodIn wsX4_bared (wsV RX4 110 RX4 yX4_valued wsX4_valued) := goodIn_app (goodIn_of _ (by decide +kernel)) ggX4_bared_X4_valued
theorem dX4_bared_0 : decode cX4_bared 0 = .ok (.aload_n 0, 1) := by decide +kernel
theorem dX4_bared_1 : decode cX4_bared 1 = .ok (.iload_n 1, 1) := by decide +kernel
theorem dX4_bared_2 : decode cX4_bared 2 = .ok (.invokevirtual 103, 3) := by decide +kernel
theorem dX4_bared_5 : decode cX4_bared 5 = .ok (.istore_n 3, 1) := by decide +kernel
theorem dX4_bared_6 : decode cX4_bared 6 = .ok (.iconst 0, 1) := by decide +kernel
theorem dX4_bared_7 : decode cX4_bared 7 = .ok (.istore 4, 2) := by decide +kernel
theorem dX4_bared_9 : decode cX4_bared 9 = .ok (.iload 4, 2) := by decide +kernel
theorem dX4_bared_11 : decode cX4_bared 11 = .ok (.aload_n 0, 1) := by decide +kernel
theorem dX4_bared_12 : decode cX4_bared 12 = .ok (.getfield 78, 3) := by decide +kernel
theorem dX4_bared_15 : decode cX4_bared 15 = .ok (.if_icmp .ge 33, 3) := by decide +kernel
theorem dX4_bared_18 : decode cX4_bared 18 = .ok (.iload_n 3, 1) := by decide +kernel
theorem dX4_bared_19 : decode cX4_bared 19 = .ok (.iload_n 2, 1) := by decide +kernel
theorem dX4_bared_20 : decode cX4_bared 20 = .ok (.iload 4, 2) := by decide +kernel
theorem dX4_bared_22 : decode cX4_bared 22 = .ok (.ishr, 1) := by decide +kernel
theorem dX4_bared_23 : decode cX4_bared 23 = .ok (.iconst 1, 1) := by decide +kernel
theorem dX4_bared_24 : decode cX4_bared 24 = .ok (.iand, 1) := by decide +kernel
theorem dX4_bared_25 : decode cX4_bared 25 = .ok (.iconst 1, 1) := by decide +kernel
theorem dX4_bared_26 : decode cX4_bared 26 = .ok (.if_icmp .ne 13, 3) := by decide +kernel
theorem dX4_bared_29 : decode cX4_bared 29 = .ok (.aload_n 0, 1) := by decide +kernel
theorem dX4_bared_30 : decode cX4_bared 30 = .ok (.iload 4, 2) := by decide +kernel
theorem dX4_bared_32 : decode cX4_bared 32 = .ok (.iload_n 1, 1) := by decide +kernel
theorem dX4_bared_33 : decode cX4_bared 33 = .ok (.invokevirtual 110, 3) := by decide +kernel
theorem dX4_bared_36 : decode cX4_bared 36 = .ok (.goto 4, 3) := by decide +kernel
theorem dX4_bared_39 : decode cX4_bared 39 = .ok (.iconst 0, 1) := by decide +kernel
theorem dX4_bared_40 : decode cX4_bared 40 = .ok (.isub, 1) := by decide +kernel
theorem dX4_bared_41 : decode cX4_bared 41 = .ok (.istore_n 3, 1) := by decide +kernel
theorem dX4_bared_42 : decode cX4_bared 42 = .ok (.iinc 4 1, 3) := by decide +kernel
theorem dX4_bared_45 : decode cX4_bared 45 = .ok (.goto (-36), 3) := by decide +kernel
theorem dX4_bared_48 : decode cX4_bared 48 = .ok (.iload_n 3, 1) := by decide +kernel
theorem dX4_bared_49 : decode cX4_bared 49 = .ok (.ifCond .ge 7, 3) := by decide +kernel
theorem dX4_bared_52 : decode cX4_bared 52 = .ok (.iconst 0, 1) := by decide +kernel
theorem dX4_bared_53 : decode cX4_bared 53 = .ok (.goto 4, 3) := by decide +kernel
theorem dX4_bared_56 : decode cX4_bared 56 = .ok (.iload_n 3, 1) := by decide +kernel
theorem dX4_bared_57 : decode cX4_bared 57 = .ok (.ireturn, 1) := by decide +kernel
set_option maxRecDepth 20000 in
theorem ggX4_weighed_X4_bared : GoodIn wsX4_weighed wsX4_bared := goodIn_r _ [9, 10, 11, 12, 13, 8, 14, 15, 16, 17, 18, 19, 20, 21, 22, 23, 24, 25, 26, 27, 28, 29, 30, 31, 32, 33, 34, 35, 36, 37, 38, 39, 40, 41, 42, 43, 44, 45, 46, 47, 48, 49, 50, 51, 52, 53] (by decide +kernel) (by decide +kernel)
set_option maxRecDepth 20000 in
theorem gX4_weighed_X4_bared : GoodIn wsX4_weighed (wsV RX4 113 RX4 yX4_bared wsX4_bared) := goodIn_app (goodIn_of _ (by decide +kernel)) ggX4_weighed_X4_bared
set_option maxRecDepth 20000 in
theorem ggX4_weighed_X4_percent : GoodIn wsX4_weighed wsX4_percent := goodIn_r _ [19, 20] (by decide +kernel) (by decide +kernel)
set_option maxRecDepth 20000 in
theorem gX4_weighed_X4_percent : GoodIn wsX4_weighed (va_wsS RX4 99 yX4_percent wsX4_percent) := goodIn_app (goodIn_of _ (by decide +kernel)) ggX4_weighed_X4_percent
theorem dX4_weighed_0 : decode cX4_weighed 0 = .ok (.aload_n 0, 1) := by decide +kernel
theorem dX4_weighed_1 : decode cX4_weighed 1 = .ok (.iload_n 1, 1) := by decide +kernel
theorem dX4_weighed_2 : decode cX4_weighed 2 = .ok (.iload_n 2, 1) := by decide +kernel
theorem dX4_weighed_3 : decode cX4_weighed 3 = .ok (.invokevirtual 113, 3) := by decide +kernel
theorem dX4_weighed_6 : decode cX4_weighed 6 = .ok (.istore_n 3, 1) := by decide +kernel
theorem dX4_weighed_7 : decode cX4_weighed 7 = .ok (.aload_n 0, 1) := by decide +kernel
theorem dX4_weighed_8 : decode cX4_weighed 8 = .ok (.getfield 7, 3) := by decide +kernel
theorem dX4_weighed_11 : decode cX4_weighed 11 = .ok (.aload_n 0, 1) := by decide +kernel
theorem dX4_weighed_12 : decode cX4_weighed 12 = .ok (.getfield 20, 3) := by decide +kernel
theorem dX4_weighed_15 : decode cX4_weighed 15 = .ok (.iload_n 1, 1) := by decide +kernel
theorem dX4_weighed_16 : decode cX4_weighed 16 = .ok (.iaload, 1) := by decide +kernel
theorem dX4_weighed_17 : decode cX4_weighed 17 = .ok (.iaload, 1) := by decide +kernel
theorem dX4_weighed_18 : decode cX4_weighed 18 = .ok (.istore 4, 2) := by decide +kernel
theorem dX4_weighed_20 : decode cX4_weighed 20 = .ok (.aload_n 0, 1) := by decide +kernel
theorem dX4_weighed_21 : decode cX4_weighed 21 = .ok (.getfield 7, 3) := by decide +kernel
theorem dX4_weighed_24 : decode cX4_weighed 24 = .ok (.aload_n 0, 1) := by decide +kernel
theorem dX4_weighed_25 : decode cX4_weighed 25 = .ok (.getfield 38, 3) := by decide +kernel
theorem dX4_weighed_28 : decode cX4_weighed 28 = .ok (.iload_n 1, 1) := by decide +kernel
theorem dX4_weighed_29 : decode cX4_weighed 29 = .ok (.iaload, 1) := by decide +kernel
theorem dX4_weighed_30 : decode cX4_weighed 30 = .ok (.iaload, 1) := by decide +kernel
theorem dX4_weighed_31 : decode cX4_weighed 31 = .ok (.istore 5, 2) := by decide +kernel
theorem dX4_weighed_33 : decode cX4_weighed 33 = .ok (.iload 5, 2) := by decide +kernel
theorem dX4_weighed_35 : decode cX4_weighed 35 = .ok (.iload 4, 2) := by decide +kernel
theorem dX4_weighed_37 : decode cX4_weighed 37 = .ok (.if_icmp .ge 26, 3) := by decide +kernel
theorem dX4_weighed_40 : decode cX4_weighed 40 = .ok (.iload_n 3, 1) := by decide +kernel
theorem dX4_weighed_41 : decode cX4_weighed 41 = .ok (.aload_n 0, 1) := by decide +kernel
theorem dX4_weighed_42 : decode cX4_weighed 42 = .ok (.getfield 41, 3) := by decide +kernel
theorem dX4_weighed_45 : decode cX4_weighed 45 = .ok (.iload_n 1, 1) := by decide +kernel
theorem dX4_weighed_46 : decode cX4_weighed 46 = .ok (.iaload, 1) := by decide +kernel
theorem dX4_weighed_47 : decode cX4_weighed 47 = .ok (.if_icmp .ge 7, 3) := by decide +kernel
theorem dX4_weighed_50 : decode cX4_weighed 50 = .ok (.iload_n 3, 1) := by decide +kernel
theorem dX4_weighed_51 : decode cX4_weighed 51 = .ok (.goto 13, 3) := by decide +kernel
theorem dX4_weighed_54 : decode cX4_weighed 54 = .ok (.aload_n 0, 1) := by decide +kernel
theorem dX4_weighed_55 : decode cX4_weighed 55 = .ok (.getfield 41, 3) := by decide +kernel
theorem dX4_weighed_58 : decode cX4_weighed 58 = .ok (.iload_n 1, 1) := by decide +kernel
theorem dX4_weighed_59 : decode cX4_weighed 59 = .ok (.iaload, 1) := by decide +kernel
theorem dX4_weighed_60 : decode cX4_weighed 60 = .ok (.goto 4, 3) := by decide +kernel
theorem dX4_weighed_63 : decode cX4_weighed 63 = .ok (.iconst 0, 1) := by decide +kernel
theorem dX4_weighed_64 : decode cX4_weighed 64 = .ok (.istore 6, 2) := by decide +kernel
theorem dX4_weighed_66 : decode cX4_weighed 66 = .ok (.iload 6, 2) := by decide +kernel
theorem dX4_weighed_68 : decode cX4_weighed 68 = .ok (.iload 5, 2) := by decide +kernel
theorem dX4_weighed_70 : decode cX4_weighed 70 = .ok (.invokestatic 99, 3) := by decide +kernel
theorem dX4_weighed_73 : decode cX4_weighed 73 = .ok (.iload_n 3, 1) := by decide +kernel
theorem dX4_weighed_74 : decode cX4_weighed 74 = .ok (.iload 6, 2) := by decide +kernel
theorem dX4_weighed_76 : decode cX4_weighed 76 = .ok (.isub, 1) := by decide +kernel
theorem dX4_weighed_77 : decode cX4_weighed 77 = .ok (.iload 4, 2) := by decide +kernel
theorem dX4_weighed_79 : decode cX4_weighed 79 = .ok (.invokestatic 99, 3) := by decide +kernel
theorem dX4_weighed_82 : decode cX4_weighed 82 = .ok (.iadd, 1) := by decide +kernel
theorem dX4_weighed_83 : decode cX4_weighed 83 = .ok (.ireturn, 1) := by decide +kernel
set_option maxRecDepth 20000 in
theorem ggX4_lays_X4_weighed : GoodIn wsX4_lays wsX4_weighed := goodIn_r _ [10, 11, 12, 13, 14, 15, 16, 17, 9, 18, 3, 19, 20, 21, 22, 23, 24, 25, 26, 27, 28, 29, 30, 31, 32, 33, 34, 35, 36, 37, 38, 39, 40, 41, 42, 43, 44, 45, 46, 47, 48, 49, 50, 51, 52, 53, 54, 55, 56, 57, 58, 59, 60, 61] (by decide +kernel) (by decide +kernel)
set_option maxRecDepth 20000 in
theorem gX4_lays_X4_weighed : GoodIn wsX4_lays (wsV RX4 116 RX4 yX4_weighed wsX4_weighed) := goodIn_app (goodIn_of _ (by decide +kernel)) ggX4_lays_X4_weighed
theorem dX4_lays_0 : decode cX4_lays 0 = .ok (.iconst 0, 1) := by decide +kernel
theorem dX4_lays_1 : decode cX4_lays 1 = .ok (.istore_n 1, 1) := by decide +kernel
theorem dX4_lays_2 : decode cX4_lays 2 = .ok (.iload_n 1, 1) := by decide +kernel
theorem dX4_lays_3 : decode cX4_lays 3 = .ok (.bipush 32, 2) := by decide +kernel
theorem dX4_lays_5 : decode cX4_lays 5 = .ok (.aload_n 0, 1) := by decide +kernel
theorem dX4_lays_6 : decode cX4_lays 6 = .ok (.getfield 75, 3) := by decide +kernel
theorem dX4_lays_9 : decode cX4_lays 9 = .ok (.imul, 1) := by decide +kernel
theorem dX4_lays_10 : decode cX4_lays 10 = .ok (.if_icmp .ge 27, 3) := by decide +kernel
theorem dX4_lays_13 : decode cX4_lays 13 = .ok (.aload_n 0, 1) := by decide +kernel
theorem dX4_lays_14 : decode cX4_lays 14 = .ok (.getfield 59, 3) := by decide +kernel
theorem dX4_lays_17 : decode cX4_lays 17 = .ok (.iload_n 1, 1) := by decide +kernel
theorem dX4_lays_18 : decode cX4_lays 18 = .ok (.aload_n 0, 1) := by decide +kernel
theorem dX4_lays_19 : decode cX4_lays 19 = .ok (.iload_n 1, 1) := by decide +kernel
theorem dX4_lays_20 : decode cX4_lays 20 = .ok (.bipush 32, 2) := by decide +kernel
theorem dX4_lays_22 : decode cX4_lays 22 = .ok (.idiv, 1) := by decide +kernel
theorem dX4_lays_23 : decode cX4_lays 23 = .ok (.iload_n 1, 1) := by decide +kernel
theorem dX4_lays_24 : decode cX4_lays 24 = .ok (.bipush 32, 2) := by decide +kernel
theorem dX4_lays_26 : decode cX4_lays 26 = .ok (.irem, 1) := by decide +kernel
theorem dX4_lays_27 : decode cX4_lays 27 = .ok (.invokevirtual 116, 3) := by decide +kernel
theorem dX4_lays_30 : decode cX4_lays 30 = .ok (.iastore, 1) := by decide +kernel
theorem dX4_lays_31 : decode cX4_lays 31 = .ok (.iinc 1 1, 3) := by decide +kernel
theorem dX4_lays_34 : decode cX4_lays 34 = .ok (.goto (-32), 3) := by decide +kernel
theorem dX4_lays_37 : decode cX4_lays 37 = .ok (.iconst 0, 1) := by decide +kernel
theorem dX4_lays_38 : decode cX4_lays 38 = .ok (.istore_n 1, 1) := by decide +kernel
theorem dX4_lays_39 : decode cX4_lays 39 = .ok (.iload_n 1, 1) := by decide +kernel
theorem dX4_lays_40 : decode cX4_lays 40 = .ok (.aload_n 0, 1) := by decide +kernel
theorem dX4_lays_41 : decode cX4_lays 41 = .ok (.getfield 78, 3) := by decide +kernel
theorem dX4_lays_44 : decode cX4_lays 44 = .ok (.if_icmp .ge 34, 3) := by decide +kernel
theorem dX4_lays_47 : decode cX4_lays 47 = .ok (.aload_n 0, 1) := by decide +kernel
theorem dX4_lays_48 : decode cX4_lays 48 = .ok (.getfield 62, 3) := by decide +kernel
theorem dX4_lays_51 : decode cX4_lays 51 = .ok (.iload_n 1, 1) := by decide +kernel
theorem dX4_lays_52 : decode cX4_lays 52 = .ok (.aload_n 0, 1) := by decide +kernel
theorem dX4_lays_53 : decode cX4_lays 53 = .ok (.getfield 56, 3) := by decide +kernel
theorem dX4_lays_56 : decode cX4_lays 56 = .ok (.iload_n 1, 1) := by decide +kernel
theorem dX4_lays_57 : decode cX4_lays 57 = .ok (.iaload, 1) := by decide +kernel
theorem dX4_lays_58 : decode cX4_lays 58 = .ok (.iconst 1, 1) := by decide +kernel
theorem dX4_lays_59 : decode cX4_lays 59 = .ok (.aload_n 0, 1) := by decide +kernel
theorem dX4_lays_60 : decode cX4_lays 60 = .ok (.getfield 75, 3) := by decide +kernel
theorem dX4_lays_63 : decode cX4_lays 63 = .ok (.ishl, 1) := by decide +kernel
theorem dX4_lays_64 : decode cX4_lays 64 = .ok (.iconst 1, 1) := by decide +kernel
theorem dX4_lays_65 : decode cX4_lays 65 = .ok (.isub, 1) := by decide +kernel
theorem dX4_lays_66 : decode cX4_lays 66 = .ok (.iand, 1) := by decide +kernel
theorem dX4_lays_67 : decode cX4_lays 67 = .ok (.sipush 256, 3) := by decide +kernel
theorem dX4_lays_70 : decode cX4_lays 70 = .ok (.ior, 1) := by decide +kernel
theorem dX4_lays_71 : decode cX4_lays 71 = .ok (.iastore, 1) := by decide +kernel
theorem dX4_lays_72 : decode cX4_lays 72 = .ok (.iinc 1 1, 3) := by decide +kernel
theorem dX4_lays_75 : decode cX4_lays 75 = .ok (.goto (-36), 3) := by decide +kernel
theorem dX4_lays_78 : decode cX4_lays 78 = .ok (.return_, 1) := by decide +kernel
theorem dX4_fits_0 : decode cX4_fits 0 = .ok (.iconst 1, 1) := by decide +kernel
theorem dX4_fits_1 : decode cX4_fits 1 = .ok (.istore_n 3, 1) := by decide +kernel
theorem dX4_fits_2 : decode cX4_fits 2 = .ok (.iconst 0, 1) := by decide +kernel
theorem dX4_fits_3 : decode cX4_fits 3 = .ok (.istore 4, 2) := by decide +kernel
theorem dX4_fits_5 : decode cX4_fits 5 = .ok (.iload 4, 2) := by decide +kernel
theorem dX4_fits_7 : decode cX4_fits 7 = .ok (.aload_n 0, 1) := by decide +kernel
theorem dX4_fits_8 : decode cX4_fits 8 = .ok (.getfield 78, 3) := by decide +kernel
theorem dX4_fits_11 : decode cX4_fits 11 = .ok (.if_icmp .ge 41, 3) := by decide +kernel
theorem dX4_fits_14 : decode cX4_fits 14 = .ok (.iload_n 3, 1) := by decide +kernel
theorem dX4_fits_15 : decode cX4_fits 15 = .ok (.iload_n 1, 1) := by decide +kernel
theorem dX4_fits_16 : decode cX4_fits 16 = .ok (.iload 4, 2) := by decide +kernel
theorem dX4_fits_18 : decode cX4_fits 18 = .ok (.ishr, 1) := by decide +kernel
theorem dX4_fits_19 : decode cX4_fits 19 = .ok (.iconst 1, 1) := by decide +kernel
theorem dX4_fits_20 : decode cX4_fits 20 = .ok (.iand, 1) := by decide +kernel
theorem dX4_fits_21 : decode cX4_fits 21 = .ok (.ifCond .eq 18, 3) := by decide +kernel
theorem dX4_fits_24 : decode cX4_fits 24 = .ok (.aload_n 0, 1) := by decide +kernel
theorem dX4_fits_25 : decode cX4_fits 25 = .ok (.getfield 62, 3) := by decide +kernel
theorem dX4_fits_28 : decode cX4_fits 28 = .ok (.iload 4, 2) := by decide +kernel
theorem dX4_fits_30 : decode cX4_fits 30 = .ok (.iaload, 1) := by decide +kernel
theorem dX4_fits_31 : decode cX4_fits 31 = .ok (.iload_n 2, 1) := by decide +kernel
theorem dX4_fits_32 : decode cX4_fits 32 = .ok (.ishr, 1) := by decide +kernel
theorem dX4_fits_33 : decode cX4_fits 33 = .ok (.iconst 1, 1) := by decide +kernel
theorem dX4_fits_34 : decode cX4_fits 34 = .ok (.iand, 1) := by decide +kernel
theorem dX4_fits_35 : decode cX4_fits 35 = .ok (.iconst 1, 1) := by decide +kernel
theorem dX4_fits_36 : decode cX4_fits 36 = .ok (.if_icmp .ne 7, 3) := by decide +kernel
theorem dX4_fits_39 : decode cX4_fits 39 = .ok (.iconst 1, 1) := by decide +kernel
theorem dX4_fits_40 : decode cX4_fits 40 = .ok (.goto 4, 3) := by decide +kernel
theorem dX4_fits_43 : decode cX4_fits 43 = .ok (.iconst 0, 1) := by decide +kernel
theorem dX4_fits_44 : decode cX4_fits 44 = .ok (.iand, 1) := by decide +kernel
theorem dX4_fits_45 : decode cX4_fits 45 = .ok (.istore_n 3, 1) := by decide +kernel
theorem dX4_fits_46 : decode cX4_fits 46 = .ok (.iinc 4 1, 3) := by decide +kernel
theorem dX4_fits_49 : decode cX4_fits 49 = .ok (.goto (-44), 3) := by decide +kernel
theorem dX4_fits_52 : decode cX4_fits 52 = .ok (.iload_n 3, 1) := by decide +kernel
theorem dX4_fits_53 : decode cX4_fits 53 = .ok (.ireturn, 1) := by decide +kernel
set_option maxRecDepth 20000 in
theorem ggX4_leastWhole_X4_fits : GoodIn wsX4_leastWhole wsX4_fits := goodIn_r _ [10, 1, 11, 12, 13, 14, 15, 16, 17, 18, 19, 20, 21, 22, 23, 24, 25, 26, 27, 28, 29, 30, 31, 32, 33, 34] (by decide +kernel) (by decide +kernel)
set_option maxRecDepth 20000 in
theorem gX4_leastWhole_X4_fits : GoodIn wsX4_leastWhole (wsV RX4 119 RX4 yX4_fits wsX4_fits) := goodIn_app (goodIn_of _ (by decide +kernel)) ggX4_leastWhole_X4_fits
theorem dX4_leastWhole_0 : decode cX4_leastWhole 0 = .ok (.iconst 1, 1) := by decide +kernel
theorem dX4_leastWhole_1 : decode cX4_leastWhole 1 = .ok (.aload_n 0, 1) := by decide +kernel
theorem dX4_leastWhole_2 : decode cX4_leastWhole 2 = .ok (.getfield 78, 3) := by decide +kernel
theorem dX4_leastWhole_5 : decode cX4_leastWhole 5 = .ok (.ishl, 1) := by decide +kernel
theorem dX4_leastWhole_6 : decode cX4_leastWhole 6 = .ok (.istore_n 1, 1) := by decide +kernel
theorem dX4_leastWhole_7 : decode cX4_leastWhole 7 = .ok (.iconst 0, 1) := by decide +kernel
theorem dX4_leastWhole_8 : decode cX4_leastWhole 8 = .ok (.istore_n 2, 1) := by decide +kernel
theorem dX4_leastWhole_9 : decode cX4_leastWhole 9 = .ok (.iload_n 2, 1) := by decide +kernel
theorem dX4_leastWhole_10 : decode cX4_leastWhole 10 = .ok (.iload_n 1, 1) := by decide +kernel
theorem dX4_leastWhole_11 : decode cX4_leastWhole 11 = .ok (.if_icmp .ge 39, 3) := by decide +kernel
theorem dX4_leastWhole_14 : decode cX4_leastWhole 14 = .ok (.aload_n 0, 1) := by decide +kernel
theorem dX4_leastWhole_15 : decode cX4_leastWhole 15 = .ok (.getfield 65, 3) := by decide +kernel
theorem dX4_leastWhole_18 : decode cX4_leastWhole 18 = .ok (.bipush 32, 2) := by decide +kernel
theorem dX4_leastWhole_20 : decode cX4_leastWhole 20 = .ok (.aload_n 0, 1) := by decide +kernel
theorem dX4_leastWhole_21 : decode cX4_leastWhole 21 = .ok (.getfield 75, 3) := by decide +kernel
theorem dX4_leastWhole_24 : decode cX4_leastWhole 24 = .ok (.imul, 1) := by decide +kernel
theorem dX4_leastWhole_25 : decode cX4_leastWhole 25 = .ok (.iload_n 2, 1) := by decide +kernel
theorem dX4_leastWhole_26 : decode cX4_leastWhole 26 = .ok (.iadd, 1) := by decide +kernel
theorem dX4_leastWhole_27 : decode cX4_leastWhole 27 = .ok (.aload_n 0, 1) := by decide +kernel
theorem dX4_leastWhole_28 : decode cX4_leastWhole 28 = .ok (.iload_n 2, 1) := by decide +kernel
theorem dX4_leastWhole_29 : decode cX4_leastWhole 29 = .ok (.bipush 8, 2) := by decide +kernel
theorem dX4_leastWhole_31 : decode cX4_leastWhole 31 = .ok (.invokevirtual 119, 3) := by decide +kernel
theorem dX4_leastWhole_34 : decode cX4_leastWhole 34 = .ok (.ifCond .eq 7, 3) := by decide +kernel
theorem dX4_leastWhole_37 : decode cX4_leastWhole 37 = .ok (.iconst 0, 1) := by decide +kernel
theorem dX4_leastWhole_38 : decode cX4_leastWhole 38 = .ok (.goto 5, 3) := by decide +kernel
theorem dX4_leastWhole_41 : decode cX4_leastWhole 41 = .ok (.ldc 87, 2) := by decide +kernel
theorem dX4_leastWhole_43 : decode cX4_leastWhole 43 = .ok (.iastore, 1) := by decide +kernel
theorem dX4_leastWhole_44 : decode cX4_leastWhole 44 = .ok (.iinc 2 1, 3) := by decide +kernel
theorem dX4_leastWhole_47 : decode cX4_leastWhole 47 = .ok (.goto (-38), 3) := by decide +kernel
theorem dX4_leastWhole_50 : decode cX4_leastWhole 50 = .ok (.aload_n 0, 1) := by decide +kernel
theorem dX4_leastWhole_51 : decode cX4_leastWhole 51 = .ok (.getfield 75, 3) := by decide +kernel
theorem dX4_leastWhole_54 : decode cX4_leastWhole 54 = .ok (.iconst 1, 1) := by decide +kernel
theorem dX4_leastWhole_55 : decode cX4_leastWhole 55 = .ok (.isub, 1) := by decide +kernel
theorem dX4_leastWhole_56 : decode cX4_leastWhole 56 = .ok (.istore_n 2, 1) := by decide +kernel
theorem dX4_leastWhole_57 : decode cX4_leastWhole 57 = .ok (.iload_n 2, 1) := by decide +kernel
theorem dX4_leastWhole_58 : decode cX4_leastWhole 58 = .ok (.ifCond .lt 121, 3) := by decide +kernel
theorem dX4_leastWhole_61 : decode cX4_leastWhole 61 = .ok (.iconst 0, 1) := by decide +kernel
theorem dX4_leastWhole_62 : decode cX4_leastWhole 62 = .ok (.istore_n 3, 1) := by decide +kernel
theorem dX4_leastWhole_63 : decode cX4_leastWhole 63 = .ok (.iload_n 3, 1) := by decide +kernel
theorem dX4_leastWhole_64 : decode cX4_leastWhole 64 = .ok (.iload_n 1, 1) := by decide +kernel
theorem dX4_leastWhole_65 : decode cX4_leastWhole 65 = .ok (.if_icmp .ge 108, 3) := by decide +kernel
theorem dX4_leastWhole_68 : decode cX4_leastWhole 68 = .ok (.ldc 87, 2) := by decide +kernel
theorem dX4_leastWhole_70 : decode cX4_leastWhole 70 = .ok (.istore 4, 2) := by decide +kernel
theorem dX4_leastWhole_72 : decode cX4_leastWhole 72 = .ok (.iconst 0, 1) := by decide +kernel
theorem dX4_leastWhole_73 : decode cX4_leastWhole 73 = .ok (.istore 5, 2) := by decide +kernel
theorem dX4_leastWhole_75 : decode cX4_leastWhole 75 = .ok (.iload 5, 2) := by decide +kernel
theorem dX4_leastWhole_77 : decode cX4_leastWhole 77 = .ok (.iload_n 3, 1) := by decide +kernel
theorem dX4_leastWhole_78 : decode cX4_leastWhole 78 = .ok (.if_icmp .gt 76, 3) := by decide +kernel
theorem dX4_leastWhole_81 : decode cX4_leastWhole 81 = .ok (.iload 5, 2) := by decide +kernel
theorem dX4_leastWhole_83 : decode cX4_leastWhole 83 = .ok (.iload_n 3, 1) := by decide +kernel
theorem dX4_leastWhole_84 : decode cX4_leastWhole 84 = .ok (.iand, 1) := by decide +kernel
theorem dX4_leastWhole_85 : decode cX4_leastWhole 85 = .ok (.iload 5, 2) := by decide +kernel
theorem dX4_leastWhole_87 : decode cX4_leastWhole 87 = .ok (.if_icmp .ne 61, 3) := by decide +kernel
theorem dX4_leastWhole_90 : decode cX4_leastWhole 90 = .ok (.aload_n 0, 1) := by decide +kernel
theorem dX4_leastWhole_91 : decode cX4_leastWhole 91 = .ok (.iload 5, 2) := by decide +kernel
theorem dX4_leastWhole_93 : decode cX4_leastWhole 93 = .ok (.iload_n 2, 1) := by decide +kernel
theorem dX4_leastWhole_94 : decode cX4_leastWhole 94 = .ok (.invokevirtual 119, 3) := by decide +kernel
theorem dX4_leastWhole_97 : decode cX4_leastWhole 97 = .ok (.ifCond .eq 51, 3) := by decide +kernel
theorem dX4_leastWhole_100 : decode cX4_leastWhole 100 = .ok (.aload_n 0, 1) := by decide +kernel
theorem dX4_leastWhole_101 : decode cX4_leastWhole 101 = .ok (.getfield 65, 3) := by decide +kernel
theorem dX4_leastWhole_104 : decode cX4_leastWhole 104 = .ok (.bipush 32, 2) := by decide +kernel
theorem dX4_leastWhole_106 : decode cX4_leastWhole 106 = .ok (.iload_n 2, 1) := by decide +kernel
theorem dX4_leastWhole_107 : decode cX4_leastWhole 107 = .ok (.imul, 1) := by decide +kernel
theorem dX4_leastWhole_108 : decode cX4_leastWhole 108 = .ok (.bipush 32, 2) := by decide +kernel
theorem dX4_leastWhole_110 : decode cX4_leastWhole 110 = .ok (.iadd, 1) := by decide +kernel
theorem dX4_leastWhole_111 : decode cX4_leastWhole 111 = .ok (.iload_n 3, 1) := by decide +kernel
theorem dX4_leastWhole_112 : decode cX4_leastWhole 112 = .ok (.iadd, 1) := by decide +kernel
theorem dX4_leastWhole_113 : decode cX4_leastWhole 113 = .ok (.iload 5, 2) := by decide +kernel
theorem dX4_leastWhole_115 : decode cX4_leastWhole 115 = .ok (.isub, 1) := by decide +kernel
theorem dX4_leastWhole_116 : decode cX4_leastWhole 116 = .ok (.iaload, 1) := by decide +kernel
theorem dX4_leastWhole_117 : decode cX4_leastWhole 117 = .ok (.aload_n 0, 1) := by decide +kernel
theorem dX4_leastWhole_118 : decode cX4_leastWhole 118 = .ok (.getfield 59, 3) := by decide +kernel
theorem dX4_leastWhole_121 : decode cX4_leastWhole 121 = .ok (.bipush 32, 2) := by decide +kernel
theorem dX4_leastWhole_123 : decode cX4_leastWhole 123 = .ok (.iload_n 2, 1) := by decide +kernel
theorem dX4_leastWhole_124 : decode cX4_leastWhole 124 = .ok (.imul, 1) := by decide +kernel
theorem dX4_leastWhole_125 : decode cX4_leastWhole 125 = .ok (.iload 5, 2) := by decide +kernel
theorem dX4_leastWhole_127 : decode cX4_leastWhole 127 = .ok (.iadd, 1) := by decide +kernel
theorem dX4_leastWhole_128 : decode cX4_leastWhole 128 = .ok (.iaload, 1) := by decide +kernel
theorem dX4_leastWhole_129 : decode cX4_leastWhole 129 = .ok (.iadd, 1) := by decide +kernel
theorem dX4_leastWhole_130 : decode cX4_leastWhole 130 = .ok (.istore 6, 2) := by decide +kernel
theorem dX4_leastWhole_132 : decode cX4_leastWhole 132 = .ok (.iload 6, 2) := by decide +kernel
theorem dX4_leastWhole_134 : decode cX4_leastWhole 134 = .ok (.iload 4, 2) := by decide +kernel
theorem dX4_leastWhole_136 : decode cX4_leastWhole 136 = .ok (.if_icmp .ge 8, 3) := by decide +kernel
theorem dX4_leastWhole_139 : decode cX4_leastWhole 139 = .ok (.iload 6, 2) := by decide +kernel
theorem dX4_leastWhole_141 : decode cX4_leastWhole 141 = .ok (.goto 5, 3) := by decide +kernel
theorem dX4_leastWhole_144 : decode cX4_leastWhole 144 = .ok (.iload 4, 2) := by decide +kernel
theorem dX4_leastWhole_146 : decode cX4_leastWhole 146 = .ok (.istore 4, 2) := by decide +kernel
theorem dX4_leastWhole_148 : decode cX4_leastWhole 148 = .ok (.iinc 5 1, 3) := by decide +kernel
theorem dX4_leastWhole_151 : decode cX4_leastWhole 151 = .ok (.goto (-76), 3) := by decide +kernel
theorem dX4_leastWhole_154 : decode cX4_leastWhole 154 = .ok (.aload_n 0, 1) := by decide +kernel
theorem dX4_leastWhole_155 : decode cX4_leastWhole 155 = .ok (.getfield 65, 3) := by decide +kernel
theorem dX4_leastWhole_158 : decode cX4_leastWhole 158 = .ok (.bipush 32, 2) := by decide +kernel
theorem dX4_leastWhole_160 : decode cX4_leastWhole 160 = .ok (.iload_n 2, 1) := by decide +kernel
theorem dX4_leastWhole_161 : decode cX4_leastWhole 161 = .ok (.imul, 1) := by decide +kernel
theorem dX4_leastWhole_162 : decode cX4_leastWhole 162 = .ok (.iload_n 3, 1) := by decide +kernel
theorem dX4_leastWhole_163 : decode cX4_leastWhole 163 = .ok (.iadd, 1) := by decide +kernel
theorem dX4_leastWhole_164 : decode cX4_leastWhole 164 = .ok (.iload 4, 2) := by decide +kernel
theorem dX4_leastWhole_166 : decode cX4_leastWhole 166 = .ok (.iastore, 1) := by decide +kernel
theorem dX4_leastWhole_167 : decode cX4_leastWhole 167 = .ok (.iinc 3 1, 3) := by decide +kernel
theorem dX4_leastWhole_170 : decode cX4_leastWhole 170 = .ok (.goto (-107), 3) := by decide +kernel
theorem dX4_leastWhole_173 : decode cX4_leastWhole 173 = .ok (.iinc 2 (-1), 3) := by decide +kernel
theorem dX4_leastWhole_176 : decode cX4_leastWhole 176 = .ok (.goto (-119), 3) := by decide +kernel
theorem dX4_leastWhole_179 : decode cX4_leastWhole 179 = .ok (.aload_n 0, 1) := by decide +kernel
theorem dX4_leastWhole_180 : decode cX4_leastWhole 180 = .ok (.getfield 65, 3) := by decide +kernel
theorem dX4_leastWhole_183 : decode cX4_leastWhole 183 = .ok (.iload_n 1, 1) := by decide +kernel
theorem dX4_leastWhole_184 : decode cX4_leastWhole 184 = .ok (.iconst 1, 1) := by decide +kernel
theorem dX4_leastWhole_185 : decode cX4_leastWhole 185 = .ok (.isub, 1) := by decide +kernel
theorem dX4_leastWhole_186 : decode cX4_leastWhole 186 = .ok (.iaload, 1) := by decide +kernel
theorem dX4_leastWhole_187 : decode cX4_leastWhole 187 = .ok (.ireturn, 1) := by decide +kernel
set_option maxRecDepth 20000 in
theorem ggX4_bests_X4_lays : GoodIn wsX4_bests wsX4_lays := goodIn_r _ [7, 8, 9, 1, 2, 10, 11, 12, 13, 6, 14, 15, 16, 17, 18, 19, 20, 21, 22, 23, 24, 25, 26, 27, 28, 29, 30, 31, 32, 33, 34, 35, 36, 37, 38, 39, 40, 41, 42, 53, 54, 55, 56, 57, 58, 59, 60, 61, 62, 63, 64, 65, 66, 67, 68, 69, 70, 71, 72, 73, 74, 75] (by decide +kernel) (by decide +kernel)
set_option maxRecDepth 20000 in
theorem gX4_bests_X4_lays : GoodIn wsX4_bests (wsV RX4 123 RX4 yX4_lays wsX4_lays) := goodIn_app (goodIn_of _ (by decide +kernel)) ggX4_bests_X4_lays
set_option maxRecDepth 20000 in
theorem ggX4_bests_X4_leastWhole : GoodIn wsX4_bests wsX4_leastWhole := goodIn_r _ [46, 1, 47, 8, 48, 9, 49, 50, 51, 6, 52, 2, 53, 54, 55, 56, 57, 58, 59, 60, 61, 62, 63, 64, 65, 66, 67, 68, 69, 70, 71, 72, 73, 74, 75] (by decide +kernel) (by decide +kernel)
set_option maxRecDepth 20000 in
theorem gX4_bests_X4_leastWhole : GoodIn wsX4_bests (wsV RX4 126 RX4 yX4_leastWhole wsX4_leastWhole) := goodIn_app (goodIn_of _ (by decide +kernel)) ggX4_bests_X4_leastWhole
theorem dX4_bests_0 : decode cX4_bests 0 = .ok (.aload_n 0, 1) := by decide +kernel
theorem dX4_bests_1 : decode cX4_bests 1 = .ok (.invokevirtual 123, 3) := by decide +kernel
theorem dX4_bests_4 : decode cX4_bests 4 = .ok (.aload_n 0, 1) := by decide +kernel
theorem dX4_bests_5 : decode cX4_bests 5 = .ok (.invokevirtual 126, 3) := by decide +kernel
theorem dX4_bests_8 : decode cX4_bests 8 = .ok (.istore_n 1, 1) := by decide +kernel
theorem dX4_bests_9 : decode cX4_bests 9 = .ok (.iconst 0, 1) := by decide +kernel
theorem dX4_bests_10 : decode cX4_bests 10 = .ok (.istore_n 2, 1) := by decide +kernel
theorem dX4_bests_11 : decode cX4_bests 11 = .ok (.iload_n 2, 1) := by decide +kernel
theorem dX4_bests_12 : decode cX4_bests 12 = .ok (.aload_n 0, 1) := by decide +kernel
theorem dX4_bests_13 : decode cX4_bests 13 = .ok (.getfield 78, 3) := by decide +kernel
theorem dX4_bests_16 : decode cX4_bests 16 = .ok (.if_icmp .ge 75, 3) := by decide +kernel
theorem dX4_bests_19 : decode cX4_bests 19 = .ok (.aload_n 0, 1) := by decide +kernel
theorem dX4_bests_20 : decode cX4_bests 20 = .ok (.getfield 62, 3) := by decide +kernel
theorem dX4_bests_23 : decode cX4_bests 23 = .ok (.iload_n 2, 1) := by decide +kernel
theorem dX4_bests_24 : decode cX4_bests 24 = .ok (.iaload, 1) := by decide +kernel
theorem dX4_bests_25 : decode cX4_bests 25 = .ok (.istore_n 3, 1) := by decide +kernel
theorem dX4_bests_26 : decode cX4_bests 26 = .ok (.iconst 0, 1) := by decide +kernel
theorem dX4_bests_27 : decode cX4_bests 27 = .ok (.istore 4, 2) := by decide +kernel
theorem dX4_bests_29 : decode cX4_bests 29 = .ok (.iconst 0, 1) := by decide +kernel
theorem dX4_bests_30 : decode cX4_bests 30 = .ok (.istore 5, 2) := by decide +kernel
theorem dX4_bests_32 : decode cX4_bests 32 = .ok (.iload 5, 2) := by decide +kernel
theorem dX4_bests_34 : decode cX4_bests 34 = .ok (.bipush 9, 2) := by decide +kernel
theorem dX4_bests_36 : decode cX4_bests 36 = .ok (.if_icmp .ge 49, 3) := by decide +kernel
theorem dX4_bests_39 : decode cX4_bests 39 = .ok (.iload 4, 2) := by decide +kernel
theorem dX4_bests_41 : decode cX4_bests 41 = .ok (.ifCond .ne 44, 3) := by decide +kernel
theorem dX4_bests_44 : decode cX4_bests 44 = .ok (.iload_n 3, 1) := by decide +kernel
theorem dX4_bests_45 : decode cX4_bests 45 = .ok (.iload 5, 2) := by decide +kernel
theorem dX4_bests_47 : decode cX4_bests 47 = .ok (.ishr, 1) := by decide +kernel
theorem dX4_bests_48 : decode cX4_bests 48 = .ok (.iconst 1, 1) := by decide +kernel
theorem dX4_bests_49 : decode cX4_bests 49 = .ok (.iand, 1) := by decide +kernel
theorem dX4_bests_50 : decode cX4_bests 50 = .ok (.iconst 1, 1) := by decide +kernel
theorem dX4_bests_51 : decode cX4_bests 51 = .ok (.if_icmp .ne 28, 3) := by decide +kernel
theorem dX4_bests_54 : decode cX4_bests 54 = .ok (.aload_n 0, 1) := by decide +kernel
theorem dX4_bests_55 : decode cX4_bests 55 = .ok (.getfield 62, 3) := by decide +kernel
theorem dX4_bests_58 : decode cX4_bests 58 = .ok (.iload_n 2, 1) := by decide +kernel
theorem dX4_bests_59 : decode cX4_bests 59 = .ok (.iconst 1, 1) := by decide +kernel
theorem dX4_bests_60 : decode cX4_bests 60 = .ok (.iload 5, 2) := by decide +kernel
theorem dX4_bests_62 : decode cX4_bests 62 = .ok (.ishl, 1) := by decide +kernel
theorem dX4_bests_63 : decode cX4_bests 63 = .ok (.iastore, 1) := by decide +kernel
theorem dX4_bests_64 : decode cX4_bests 64 = .ok (.aload_n 0, 1) := by decide +kernel
theorem dX4_bests_65 : decode cX4_bests 65 = .ok (.invokevirtual 126, 3) := by decide +kernel
theorem dX4_bests_68 : decode cX4_bests 68 = .ok (.iload_n 1, 1) := by decide +kernel
theorem dX4_bests_69 : decode cX4_bests 69 = .ok (.if_icmp .ne 7, 3) := by decide +kernel
theorem dX4_bests_72 : decode cX4_bests 72 = .ok (.iconst 1, 1) := by decide +kernel
theorem dX4_bests_73 : decode cX4_bests 73 = .ok (.goto 4, 3) := by decide +kernel
theorem dX4_bests_76 : decode cX4_bests 76 = .ok (.iconst 0, 1) := by decide +kernel
theorem dX4_bests_77 : decode cX4_bests 77 = .ok (.istore 4, 2) := by decide +kernel
theorem dX4_bests_79 : decode cX4_bests 79 = .ok (.iinc 5 1, 3) := by decide +kernel
theorem dX4_bests_82 : decode cX4_bests 82 = .ok (.goto (-50), 3) := by decide +kernel
theorem dX4_bests_85 : decode cX4_bests 85 = .ok (.iinc 2 1, 3) := by decide +kernel
theorem dX4_bests_88 : decode cX4_bests 88 = .ok (.goto (-77), 3) := by decide +kernel
theorem dX4_bests_91 : decode cX4_bests 91 = .ok (.iload_n 1, 1) := by decide +kernel
theorem dX4_bests_92 : decode cX4_bests 92 = .ok (.ireturn, 1) := by decide +kernel
theorem dX4_setOf_0 : decode cX4_setOf 0 = .ok (.iconst 0, 1) := by decide +kernel
theorem dX4_setOf_1 : decode cX4_setOf 1 = .ok (.istore_n 2, 1) := by decide +kernel
theorem dX4_setOf_2 : decode cX4_setOf 2 = .ok (.iconst 0, 1) := by decide +kernel
theorem dX4_setOf_3 : decode cX4_setOf 3 = .ok (.istore_n 3, 1) := by decide +kernel
theorem dX4_setOf_4 : decode cX4_setOf 4 = .ok (.iload_n 3, 1) := by decide +kernel
theorem dX4_setOf_5 : decode cX4_setOf 5 = .ok (.aload_n 0, 1) := by decide +kernel
theorem dX4_setOf_6 : decode cX4_setOf 6 = .ok (.getfield 78, 3) := by decide +kernel
theorem dX4_setOf_9 : decode cX4_setOf 9 = .ok (.if_icmp .ge 31, 3) := by decide +kernel
theorem dX4_setOf_12 : decode cX4_setOf 12 = .ok (.iload_n 2, 1) := by decide +kernel
theorem dX4_setOf_13 : decode cX4_setOf 13 = .ok (.aload_n 0, 1) := by decide +kernel
theorem dX4_setOf_14 : decode cX4_setOf 14 = .ok (.getfield 62, 3) := by decide +kernel
theorem dX4_setOf_17 : decode cX4_setOf 17 = .ok (.iload_n 3, 1) := by decide +kernel
theorem dX4_setOf_18 : decode cX4_setOf 18 = .ok (.iaload, 1) := by decide +kernel
theorem dX4_setOf_19 : decode cX4_setOf 19 = .ok (.iconst 1, 1) := by decide +kernel
theorem dX4_setOf_20 : decode cX4_setOf 20 = .ok (.iload_n 1, 1) := by decide +kernel
theorem dX4_setOf_21 : decode cX4_setOf 21 = .ok (.ishl, 1) := by decide +kernel
theorem dX4_setOf_22 : decode cX4_setOf 22 = .ok (.if_icmp .ne 9, 3) := by decide +kernel
theorem dX4_setOf_25 : decode cX4_setOf 25 = .ok (.iconst 1, 1) := by decide +kernel
theorem dX4_setOf_26 : decode cX4_setOf 26 = .ok (.iload_n 3, 1) := by decide +kernel
theorem dX4_setOf_27 : decode cX4_setOf 27 = .ok (.ishl, 1) := by decide +kernel
theorem dX4_setOf_28 : decode cX4_setOf 28 = .ok (.goto 4, 3) := by decide +kernel
theorem dX4_setOf_31 : decode cX4_setOf 31 = .ok (.iconst 0, 1) := by decide +kernel
theorem dX4_setOf_32 : decode cX4_setOf 32 = .ok (.ior, 1) := by decide +kernel
theorem dX4_setOf_33 : decode cX4_setOf 33 = .ok (.istore_n 2, 1) := by decide +kernel
theorem dX4_setOf_34 : decode cX4_setOf 34 = .ok (.iinc 3 1, 3) := by decide +kernel
theorem dX4_setOf_37 : decode cX4_setOf 37 = .ok (.goto (-33), 3) := by decide +kernel
theorem dX4_setOf_40 : decode cX4_setOf 40 = .ok (.iload_n 2, 1) := by decide +kernel
theorem dX4_setOf_41 : decode cX4_setOf 41 = .ok (.ireturn, 1) := by decide +kernel
set_option maxRecDepth 20000 in
theorem ggX4_givenTo_X4_isPiece : GoodIn wsX4_givenTo wsX4_isPiece := goodIn_r _ [8, 9, 10, 11, 7, 12, 65, 66, 67, 68, 69, 70, 71, 72, 73, 74, 75, 76, 77, 78, 79, 80, 81, 82, 83, 84, 85, 86, 87] (by decide +kernel) (by decide +kernel)
set_option maxRecDepth 20000 in
theorem gX4_givenTo_X4_isPiece : GoodIn wsX4_givenTo (wsV RX4 107 RX4 yX4_isPiece wsX4_isPiece) := goodIn_app (goodIn_of _ (by decide +kernel)) ggX4_givenTo_X4_isPiece
set_option maxRecDepth 20000 in
theorem ggX4_givenTo_X4_bests : GoodIn wsX4_givenTo wsX4_bests := goodIn_r _ [16, 9, 3, 17, 18, 19, 7, 20, 2, 21, 22, 23, 24, 25, 26, 27, 28, 29, 30, 31, 32, 33, 34, 35, 36, 37, 38, 39, 40, 41, 42, 43, 44, 45, 46, 47, 48, 49, 50, 51, 52, 53, 54, 55, 56, 57, 58, 59, 60, 61, 62, 63, 64, 65, 66, 67, 68, 69, 70, 71, 72, 73, 74, 75, 76, 77, 78, 79, 80, 81, 82, 83, 84, 85, 86, 87] (by decide +kernel) (by decide +kernel)
set_option maxRecDepth 20000 in
theorem gX4_givenTo_X4_bests : GoodIn wsX4_givenTo (wsV RX4 130 RX4 yX4_bests wsX4_bests) := goodIn_app (goodIn_of _ (by decide +kernel)) ggX4_givenTo_X4_bests
theorem dX4_givenTo_0 : decode cX4_givenTo 0 = .ok (.aload_n 0, 1) := by decide +kernel
theorem dX4_givenTo_1 : decode cX4_givenTo 1 = .ok (.aload_n 0, 1) := by decide +kernel
theorem dX4_givenTo_2 : decode cX4_givenTo 2 = .ok (.iload_n 1, 1) := by decide +kernel
theorem dX4_givenTo_3 : decode cX4_givenTo 3 = .ok (.invokevirtual 107, 3) := by decide +kernel
theorem dX4_givenTo_6 : decode cX4_givenTo 6 = .ok (.ifCond .eq 7, 3) := by decide +kernel
theorem dX4_givenTo_9 : decode cX4_givenTo 9 = .ok (.iconst 0, 1) := by decide +kernel
theorem dX4_givenTo_10 : decode cX4_givenTo 10 = .ok (.goto 4, 3) := by decide +kernel
theorem dX4_givenTo_13 : decode cX4_givenTo 13 = .ok (.iconst 1, 1) := by decide +kernel
theorem dX4_givenTo_14 : decode cX4_givenTo 14 = .ok (.putfield 68, 3) := by decide +kernel
theorem dX4_givenTo_17 : decode cX4_givenTo 17 = .ok (.aload_n 0, 1) := by decide +kernel
theorem dX4_givenTo_18 : decode cX4_givenTo 18 = .ok (.getfield 68, 3) := by decide +kernel
theorem dX4_givenTo_21 : decode cX4_givenTo 21 = .ok (.ifCond .le 5, 3) := by decide +kernel
theorem dX4_givenTo_24 : decode cX4_givenTo 24 = .ok (.iconst 0, 1) := by decide +kernel
theorem dX4_givenTo_25 : decode cX4_givenTo 25 = .ok (.ireturn, 1) := by decide +kernel
theorem dX4_givenTo_26 : decode cX4_givenTo 26 = .ok (.aload_n 0, 1) := by decide +kernel
theorem dX4_givenTo_27 : decode cX4_givenTo 27 = .ok (.invokevirtual 130, 3) := by decide +kernel
theorem dX4_givenTo_30 : decode cX4_givenTo 30 = .ok (.pop, 1) := by decide +kernel
theorem dX4_givenTo_31 : decode cX4_givenTo 31 = .ok (.iconst 0, 1) := by decide +kernel
theorem dX4_givenTo_32 : decode cX4_givenTo 32 = .ok (.istore_n 2, 1) := by decide +kernel
theorem dX4_givenTo_33 : decode cX4_givenTo 33 = .ok (.iload_n 2, 1) := by decide +kernel
theorem dX4_givenTo_34 : decode cX4_givenTo 34 = .ok (.aload_n 0, 1) := by decide +kernel
theorem dX4_givenTo_35 : decode cX4_givenTo 35 = .ok (.getfield 75, 3) := by decide +kernel
theorem dX4_givenTo_38 : decode cX4_givenTo 38 = .ok (.if_icmp .ge 23, 3) := by decide +kernel
theorem dX4_givenTo_41 : decode cX4_givenTo 41 = .ok (.aload_n 0, 1) := by decide +kernel
theorem dX4_givenTo_42 : decode cX4_givenTo 42 = .ok (.getfield 62, 3) := by decide +kernel
theorem dX4_givenTo_45 : decode cX4_givenTo 45 = .ok (.iload_n 1, 1) := by decide +kernel
theorem dX4_givenTo_46 : decode cX4_givenTo 46 = .ok (.iaload, 1) := by decide +kernel
theorem dX4_givenTo_47 : decode cX4_givenTo 47 = .ok (.iconst 1, 1) := by decide +kernel
theorem dX4_givenTo_48 : decode cX4_givenTo 48 = .ok (.iload_n 2, 1) := by decide +kernel
theorem dX4_givenTo_49 : decode cX4_givenTo 49 = .ok (.ishl, 1) := by decide +kernel
theorem dX4_givenTo_50 : decode cX4_givenTo 50 = .ok (.if_icmp .ne 5, 3) := by decide +kernel
theorem dX4_givenTo_53 : decode cX4_givenTo 53 = .ok (.iload_n 2, 1) := by decide +kernel
theorem dX4_givenTo_54 : decode cX4_givenTo 54 = .ok (.ireturn, 1) := by decide +kernel
theorem dX4_givenTo_55 : decode cX4_givenTo 55 = .ok (.iinc 2 1, 3) := by decide +kernel
theorem dX4_givenTo_58 : decode cX4_givenTo 58 = .ok (.goto (-25), 3) := by decide +kernel
theorem dX4_givenTo_61 : decode cX4_givenTo 61 = .ok (.iconst (-1), 1) := by decide +kernel
theorem dX4_givenTo_62 : decode cX4_givenTo 62 = .ok (.ireturn, 1) := by decide +kernel
set_option maxRecDepth 20000 in
theorem ggX4_bare_X4_isExposure : GoodIn wsX4_bare wsX4_isExposure := goodIn_r _ [6, 7, 8, 9, 5, 10, 69, 70, 71, 72, 73, 74, 75, 76, 77, 78, 79, 80, 81, 82, 83, 84, 85, 86, 87, 88, 89, 90, 91] (by decide +kernel) (by decide +kernel)
set_option maxRecDepth 20000 in
theorem gX4_bare_X4_isExposure : GoodIn wsX4_bare (wsV RX4 95 RX4 yX4_isExposure wsX4_isExposure) := goodIn_app (goodIn_of _ (by decide +kernel)) ggX4_bare_X4_isExposure
set_option maxRecDepth 20000 in
theorem ggX4_bare_X4_bests : GoodIn wsX4_bare wsX4_bests := goodIn_r _ [14, 15, 16, 17, 18, 19, 5, 20, 7, 21, 22, 23, 24, 25, 26, 27, 28, 29, 30, 31, 32, 33, 34, 35, 36, 37, 38, 39, 40, 41, 42, 43, 44, 45, 46, 47, 48, 49, 50, 51, 52, 53, 54, 55, 56, 57, 58, 59, 60, 61, 62, 63, 64, 69, 70, 71, 72, 73, 74, 75, 76, 77, 78, 79, 80, 81, 82, 83, 84, 85, 86, 87, 88, 89, 90, 91] (by decide +kernel) (by decide +kernel)
set_option maxRecDepth 20000 in
theorem gX4_bare_X4_bests : GoodIn wsX4_bare (wsV RX4 130 RX4 yX4_bests wsX4_bests) := goodIn_app (goodIn_of _ (by decide +kernel)) ggX4_bare_X4_bests
set_option maxRecDepth 20000 in
theorem ggX4_bare_X4_setOf : GoodIn wsX4_bare wsX4_setOf := goodIn_r _ [68, 15, 16, 69, 70, 71, 72, 73, 74, 75, 76, 77, 78, 79, 80, 81, 82, 83, 84, 85, 86, 87, 88, 89, 90, 91] (by decide +kernel) (by decide +kernel)
set_option maxRecDepth 20000 in
theorem gX4_bare_X4_setOf : GoodIn wsX4_bare (wsV RX4 133 RX4 yX4_setOf wsX4_setOf) := goodIn_app (goodIn_of _ (by decide +kernel)) ggX4_bare_X4_setOf
set_option maxRecDepth 20000 in
theorem ggX4_bare_X4_bared : GoodIn wsX4_bare wsX4_bared := goodIn_r _ [34, 15, 35, 36, 37, 5, 38, 39, 40, 41, 42, 43, 44, 45, 46, 47, 48, 49, 50, 51, 52, 53, 54, 69, 70, 71, 72, 73, 74, 75, 76, 77, 78, 79, 80, 81, 82, 83, 84, 85, 86, 87, 88, 89, 90, 91] (by decide +kernel) (by decide +kernel)
set_option maxRecDepth 20000 in
theorem gX4_bare_X4_bared : GoodIn wsX4_bare (wsV RX4 113 RX4 yX4_bared wsX4_bared) := goodIn_app (goodIn_of _ (by decide +kernel)) ggX4_bare_X4_bared
theorem dX4_bare_0 : decode cX4_bare 0 = .ok (.aload_n 0, 1) := by decide +kernel
theorem dX4_bare_1 : decode cX4_bare 1 = .ok (.aload_n 0, 1) := by decide +kernel
theorem dX4_bare_2 : decode cX4_bare 2 = .ok (.iload_n 1, 1) := by decide +kernel
theorem dX4_bare_3 : decode cX4_bare 3 = .ok (.invokevirtual 95, 3) := by decide +kernel
theorem dX4_bare_6 : decode cX4_bare 6 = .ok (.ifCond .eq 7, 3) := by decide +kernel
theorem dX4_bare_9 : decode cX4_bare 9 = .ok (.iconst 0, 1) := by decide +kernel
theorem dX4_bare_10 : decode cX4_bare 10 = .ok (.goto 4, 3) := by decide +kernel
theorem dX4_bare_13 : decode cX4_bare 13 = .ok (.iconst 1, 1) := by decide +kernel
theorem dX4_bare_14 : decode cX4_bare 14 = .ok (.putfield 68, 3) := by decide +kernel
theorem dX4_bare_17 : decode cX4_bare 17 = .ok (.aload_n 0, 1) := by decide +kernel
theorem dX4_bare_18 : decode cX4_bare 18 = .ok (.getfield 68, 3) := by decide +kernel
theorem dX4_bare_21 : decode cX4_bare 21 = .ok (.ifCond .le 5, 3) := by decide +kernel
theorem dX4_bare_24 : decode cX4_bare 24 = .ok (.iconst 0, 1) := by decide +kernel
theorem dX4_bare_25 : decode cX4_bare 25 = .ok (.ireturn, 1) := by decide +kernel
theorem dX4_bare_26 : decode cX4_bare 26 = .ok (.aload_n 0, 1) := by decide +kernel
theorem dX4_bare_27 : decode cX4_bare 27 = .ok (.invokevirtual 130, 3) := by decide +kernel
theorem dX4_bare_30 : decode cX4_bare 30 = .ok (.pop, 1) := by decide +kernel
theorem dX4_bare_31 : decode cX4_bare 31 = .ok (.aload_n 0, 1) := by decide +kernel
theorem dX4_bare_32 : decode cX4_bare 32 = .ok (.iload_n 1, 1) := by decide +kernel
theorem dX4_bare_33 : decode cX4_bare 33 = .ok (.aload_n 0, 1) := by decide +kernel
theorem dX4_bare_34 : decode cX4_bare 34 = .ok (.iload_n 1, 1) := by decide +kernel
theorem dX4_bare_35 : decode cX4_bare 35 = .ok (.invokevirtual 133, 3) := by decide +kernel
theorem dX4_bare_38 : decode cX4_bare 38 = .ok (.invokevirtual 113, 3) := by decide +kernel
theorem dX4_bare_41 : decode cX4_bare 41 = .ok (.ireturn, 1) := by decide +kernel
set_option maxRecDepth 20000 in
theorem ggX4_weighted_X4_isExposure : GoodIn wsX4_weighted wsX4_isExposure := goodIn_r _ [6, 7, 8, 9, 5, 10, 69, 70, 71, 72, 73, 74, 75, 76, 77, 78, 79, 80, 81, 82, 83, 84, 85, 86, 87, 88, 89, 90, 91] (by decide +kernel) (by decide +kernel)
set_option maxRecDepth 20000 in
theorem gX4_weighted_X4_isExposure : GoodIn wsX4_weighted (wsV RX4 95 RX4 yX4_isExposure wsX4_isExposure) := goodIn_app (goodIn_of _ (by decide +kernel)) ggX4_weighted_X4_isExposure
set_option maxRecDepth 20000 in
theorem ggX4_weighted_X4_bests : GoodIn wsX4_weighted wsX4_bests := goodIn_r _ [14, 15, 16, 17, 18, 19, 5, 20, 7, 21, 22, 23, 24, 25, 26, 27, 28, 29, 30, 31, 32, 33, 34, 35, 36, 37, 38, 39, 40, 41, 42, 43, 44, 45, 46, 47, 48, 49, 50, 51, 52, 53, 54, 55, 56, 57, 58, 59, 60, 61, 62, 63, 64, 69, 70, 71, 72, 73, 74, 75, 76, 77, 78, 79, 80, 81, 82, 83, 84, 85, 86, 87, 88, 89, 90, 91] (by decide +kernel) (by decide +kernel)
set_option maxRecDepth 20000 in
theorem gX4_weighted_X4_bests : GoodIn wsX4_weighted (wsV RX4 130 RX4 yX4_bests wsX4_bests) := goodIn_app (goodIn_of _ (by decide +kernel)) ggX4_weighted_X4_bests
set_option maxRecDepth 20000 in
theorem ggX4_weighted_X4_setOf : GoodIn wsX4_weighted wsX4_setOf := goodIn_r _ [68, 15, 16, 69, 70, 71, 72, 73, 74, 75, 76, 77, 78, 79, 80, 81, 82, 83, 84, 85, 86, 87, 88, 89, 90, 91] (by decide +kernel) (by decide +kernel)
set_option maxRecDepth 20000 in
theorem gX4_weighted_X4_setOf : GoodIn wsX4_weighted (wsV RX4 133 RX4 yX4_setOf wsX4_setOf) := goodIn_app (goodIn_of _ (by decide +kernel)) ggX4_weighted_X4_setOf
set_option maxRecDepth 20000 in
theorem ggX4_weighted_X4_weighed : GoodIn wsX4_weighted wsX4_weighed := goodIn_r _ [26, 27, 28, 29, 30, 31, 32, 33, 5, 34, 15, 35, 36, 37, 38, 39, 40, 41, 42, 43, 44, 45, 46, 47, 48, 49, 50, 51, 52, 53, 54, 69, 70, 71, 72, 73, 74, 75, 76, 77, 78, 79, 80, 81, 82, 83, 84, 85, 86, 87, 88, 89, 90, 91] (by decide +kernel) (by decide +kernel)
set_option maxRecDepth 20000 in
theorem gX4_weighted_X4_weighed : GoodIn wsX4_weighted (wsV RX4 116 RX4 yX4_weighed wsX4_weighed) := goodIn_app (goodIn_of _ (by decide +kernel)) ggX4_weighted_X4_weighed
theorem dX4_weighted_0 : decode cX4_weighted 0 = .ok (.aload_n 0, 1) := by decide +kernel
theorem dX4_weighted_1 : decode cX4_weighted 1 = .ok (.aload_n 0, 1) := by decide +kernel
theorem dX4_weighted_2 : decode cX4_weighted 2 = .ok (.iload_n 1, 1) := by decide +kernel
theorem dX4_weighted_3 : decode cX4_weighted 3 = .ok (.invokevirtual 95, 3) := by decide +kernel
theorem dX4_weighted_6 : decode cX4_weighted 6 = .ok (.ifCond .eq 7, 3) := by decide +kernel
theorem dX4_weighted_9 : decode cX4_weighted 9 = .ok (.iconst 0, 1) := by decide +kernel
theorem dX4_weighted_10 : decode cX4_weighted 10 = .ok (.goto 4, 3) := by decide +kernel
theorem dX4_weighted_13 : decode cX4_weighted 13 = .ok (.iconst 1, 1) := by decide +kernel
theorem dX4_weighted_14 : decode cX4_weighted 14 = .ok (.putfield 68, 3) := by decide +kernel
theorem dX4_weighted_17 : decode cX4_weighted 17 = .ok (.aload_n 0, 1) := by decide +kernel
theorem dX4_weighted_18 : decode cX4_weighted 18 = .ok (.getfield 68, 3) := by decide +kernel
theorem dX4_weighted_21 : decode cX4_weighted 21 = .ok (.ifCond .le 5, 3) := by decide +kernel
theorem dX4_weighted_24 : decode cX4_weighted 24 = .ok (.iconst 0, 1) := by decide +kernel
theorem dX4_weighted_25 : decode cX4_weighted 25 = .ok (.ireturn, 1) := by decide +kernel
theorem dX4_weighted_26 : decode cX4_weighted 26 = .ok (.aload_n 0, 1) := by decide +kernel
theorem dX4_weighted_27 : decode cX4_weighted 27 = .ok (.invokevirtual 130, 3) := by decide +kernel
theorem dX4_weighted_30 : decode cX4_weighted 30 = .ok (.pop, 1) := by decide +kernel
theorem dX4_weighted_31 : decode cX4_weighted 31 = .ok (.aload_n 0, 1) := by decide +kernel
theorem dX4_weighted_32 : decode cX4_weighted 32 = .ok (.iload_n 1, 1) := by decide +kernel
theorem dX4_weighted_33 : decode cX4_weighted 33 = .ok (.aload_n 0, 1) := by decide +kernel
theorem dX4_weighted_34 : decode cX4_weighted 34 = .ok (.iload_n 1, 1) := by decide +kernel
theorem dX4_weighted_35 : decode cX4_weighted 35 = .ok (.invokevirtual 133, 3) := by decide +kernel
theorem dX4_weighted_38 : decode cX4_weighted 38 = .ok (.invokevirtual 116, 3) := by decide +kernel
theorem dX4_weighted_41 : decode cX4_weighted 41 = .ok (.ireturn, 1) := by decide +kernel
set_option maxRecDepth 20000 in
theorem ggX4_wholes_X4_lays : GoodIn wsX4_wholes wsX4_lays := goodIn_r _ [5, 6, 7, 8, 9, 10, 11, 12, 13, 4, 14, 15, 16, 17, 18, 19, 20, 21, 22, 23, 24, 25, 26, 27, 28, 29, 30, 31, 32, 33, 34, 35, 36, 37, 38, 39, 40, 41, 42, 53, 54, 55, 56, 57, 58, 59, 60, 61, 62, 63, 64, 65, 66, 67, 68, 69, 70, 71, 72, 73, 74, 75] (by decide +kernel) (by decide +kernel)
set_option maxRecDepth 20000 in
theorem gX4_wholes_X4_lays : GoodIn wsX4_wholes (wsV RX4 123 RX4 yX4_lays wsX4_lays) := goodIn_app (goodIn_of _ (by decide +kernel)) ggX4_wholes_X4_lays
set_option maxRecDepth 20000 in
theorem ggX4_wholes_X4_leastWhole : GoodIn wsX4_wholes wsX4_leastWhole := goodIn_r _ [46, 8, 47, 6, 48, 7, 49, 50, 51, 4, 52, 9, 53, 54, 55, 56, 57, 58, 59, 60, 61, 62, 63, 64, 65, 66, 67, 68, 69, 70, 71, 72, 73, 74, 75] (by decide +kernel) (by decide +kernel)
set_option maxRecDepth 20000 in
theorem gX4_wholes_X4_leastWhole : GoodIn wsX4_wholes (wsV RX4 126 RX4 yX4_leastWhole wsX4_leastWhole) := goodIn_app (goodIn_of _ (by decide +kernel)) ggX4_wholes_X4_leastWhole
theorem dX4_wholes_0 : decode cX4_wholes 0 = .ok (.aload_n 0, 1) := by decide +kernel
theorem dX4_wholes_1 : decode cX4_wholes 1 = .ok (.invokevirtual 123, 3) := by decide +kernel
theorem dX4_wholes_4 : decode cX4_wholes 4 = .ok (.aload_n 0, 1) := by decide +kernel
theorem dX4_wholes_5 : decode cX4_wholes 5 = .ok (.invokevirtual 126, 3) := by decide +kernel
theorem dX4_wholes_8 : decode cX4_wholes 8 = .ok (.ireturn, 1) := by decide +kernel
set_option maxRecDepth 20000 in
theorem ggX4_whole_X4_wholes : GoodIn wsX4_whole wsX4_wholes := goodIn_r _ [6, 7, 8, 9, 5, 10, 11, 12, 13, 14, 15, 16, 17, 18, 19, 20, 21, 22, 23, 24, 25, 26, 27, 28, 29, 30, 31, 32, 33, 34, 35, 36, 37, 38, 39, 40, 41, 42, 43, 44, 45, 46, 47, 48, 49, 50, 51, 52, 53, 54, 55, 56, 57, 58, 59, 60, 61, 62, 63, 64, 65, 66, 67, 68, 69, 70, 71, 72, 73, 74, 75, 76, 77, 78, 79, 80] (by decide +kernel) (by decide +kernel)
set_option maxRecDepth 20000 in
theorem gX4_whole_X4_wholes : GoodIn wsX4_whole (wsV RX4 136 RX4 yX4_wholes wsX4_wholes) := goodIn_app (goodIn_of _ (by decide +kernel)) ggX4_whole_X4_wholes
theorem dX4_whole_0 : decode cX4_whole 0 = .ok (.aload_n 0, 1) := by decide +kernel
theorem dX4_whole_1 : decode cX4_whole 1 = .ok (.iconst 0, 1) := by decide +kernel
theorem dX4_whole_2 : decode cX4_whole 2 = .ok (.putfield 68, 3) := by decide +kernel
theorem dX4_whole_5 : decode cX4_whole 5 = .ok (.aload_n 0, 1) := by decide +kernel
theorem dX4_whole_6 : decode cX4_whole 6 = .ok (.invokevirtual 136, 3) := by decide +kernel
theorem dX4_whole_9 : decode cX4_whole 9 = .ok (.ireturn, 1) := by decide +kernel
set_option maxRecDepth 20000 in
theorem ggX4_wholeByTrying_X4_wholes : GoodIn wsX4_wholeByTrying wsX4_wholes := goodIn_r _ [6, 7, 8, 9, 5, 10, 11, 12, 13, 14, 15, 16, 17, 18, 19, 20, 21, 22, 23, 24, 25, 26, 27, 28, 29, 30, 31, 32, 33, 34, 35, 36, 37, 38, 39, 40, 41, 42, 43, 44, 45, 46, 47, 48, 49, 50, 51, 52, 53, 54, 55, 56, 57, 58, 59, 60, 61, 62, 63, 64, 65, 66, 67, 68, 69, 70, 71, 72, 73, 74, 75, 76, 77, 78, 79, 80] (by decide +kernel) (by decide +kernel)
set_option maxRecDepth 20000 in
theorem gX4_wholeByTrying_X4_wholes : GoodIn wsX4_wholeByTrying (wsV RX4 136 RX4 yX4_wholes wsX4_wholes) := goodIn_app (goodIn_of _ (by decide +kernel)) ggX4_wholeByTrying_X4_wholes
theorem dX4_wholeByTrying_0 : decode cX4_wholeByTrying 0 = .ok (.aload_n 0, 1) := by decide +kernel
theorem dX4_wholeByTrying_1 : decode cX4_wholeByTrying 1 = .ok (.iconst 0, 1) := by decide +kernel
theorem dX4_wholeByTrying_2 : decode cX4_wholeByTrying 2 = .ok (.putfield 68, 3) := by decide +kernel
theorem dX4_wholeByTrying_5 : decode cX4_wholeByTrying 5 = .ok (.aload_n 0, 1) := by decide +kernel
theorem dX4_wholeByTrying_6 : decode cX4_wholeByTrying 6 = .ok (.invokevirtual 136, 3) := by decide +kernel
theorem dX4_wholeByTrying_9 : decode cX4_wholeByTrying 9 = .ok (.ireturn, 1) := by decide +kernel
set_option maxRecDepth 20000 in
theorem ggX4_worth_X4_isPiece : GoodIn wsX4_worth wsX4_isPiece := goodIn_r _ [7, 8, 9, 10, 6, 11, 65, 66, 67, 68, 69, 70, 71, 72, 73, 74, 75, 76, 77, 78, 79, 80, 81, 82, 83, 84, 85, 86, 87] (by decide +kernel) (by decide +kernel)
set_option maxRecDepth 20000 in
theorem gX4_worth_X4_isPiece : GoodIn wsX4_worth (wsV RX4 107 RX4 yX4_isPiece wsX4_isPiece) := goodIn_app (goodIn_of _ (by decide +kernel)) ggX4_worth_X4_isPiece
set_option maxRecDepth 20000 in
theorem ggX4_worth_X4_wholes : GoodIn wsX4_worth wsX4_wholes := goodIn_r _ [15, 16, 17, 18, 6, 19, 20, 21, 8, 2, 22, 23, 24, 25, 26, 27, 28, 29, 30, 31, 32, 33, 34, 35, 36, 37, 38, 39, 40, 41, 42, 43, 44, 45, 46, 47, 48, 49, 50, 51, 52, 53, 54, 55, 56, 57, 58, 59, 60, 61, 62, 63, 64, 65, 66, 67, 68, 69, 70, 71, 72, 73, 74, 75, 76, 77, 78, 79, 80, 81, 82, 83, 84, 85, 86, 87] (by decide +kernel) (by decide +kernel)
set_option maxRecDepth 20000 in
theorem gX4_worth_X4_wholes : GoodIn wsX4_worth (wsV RX4 136 RX4 yX4_wholes wsX4_wholes) := goodIn_app (goodIn_of _ (by decide +kernel)) ggX4_worth_X4_wholes
set_option maxRecDepth 20000 in
theorem ggX4_worth_X4_leastWhole : GoodIn wsX4_worth wsX4_leastWhole := goodIn_r _ [58, 8, 59, 20, 60, 21, 61, 62, 63, 6, 64, 2, 65, 66, 67, 68, 69, 70, 71, 72, 73, 74, 75, 76, 77, 78, 79, 80, 81, 82, 83, 84, 85, 86, 87] (by decide +kernel) (by decide +kernel)
set_option maxRecDepth 20000 in
theorem gX4_worth_X4_leastWhole : GoodIn wsX4_worth (wsV RX4 126 RX4 yX4_leastWhole wsX4_leastWhole) := goodIn_app (goodIn_of _ (by decide +kernel)) ggX4_worth_X4_leastWhole
theorem dX4_worth_0 : decode cX4_worth 0 = .ok (.aload_n 0, 1) := by decide +kernel
theorem dX4_worth_1 : decode cX4_worth 1 = .ok (.aload_n 0, 1) := by decide +kernel
theorem dX4_worth_2 : decode cX4_worth 2 = .ok (.iload_n 1, 1) := by decide +kernel
theorem dX4_worth_3 : decode cX4_worth 3 = .ok (.invokevirtual 107, 3) := by decide +kernel
theorem dX4_worth_6 : decode cX4_worth 6 = .ok (.ifCond .eq 7, 3) := by decide +kernel
theorem dX4_worth_9 : decode cX4_worth 9 = .ok (.iconst 0, 1) := by decide +kernel
theorem dX4_worth_10 : decode cX4_worth 10 = .ok (.goto 4, 3) := by decide +kernel
theorem dX4_worth_13 : decode cX4_worth 13 = .ok (.iconst 1, 1) := by decide +kernel
theorem dX4_worth_14 : decode cX4_worth 14 = .ok (.putfield 68, 3) := by decide +kernel
theorem dX4_worth_17 : decode cX4_worth 17 = .ok (.aload_n 0, 1) := by decide +kernel
theorem dX4_worth_18 : decode cX4_worth 18 = .ok (.getfield 68, 3) := by decide +kernel
theorem dX4_worth_21 : decode cX4_worth 21 = .ok (.ifCond .le 5, 3) := by decide +kernel
theorem dX4_worth_24 : decode cX4_worth 24 = .ok (.iconst 0, 1) := by decide +kernel
theorem dX4_worth_25 : decode cX4_worth 25 = .ok (.ireturn, 1) := by decide +kernel
theorem dX4_worth_26 : decode cX4_worth 26 = .ok (.aload_n 0, 1) := by decide +kernel
theorem dX4_worth_27 : decode cX4_worth 27 = .ok (.invokevirtual 136, 3) := by decide +kernel
theorem dX4_worth_30 : decode cX4_worth 30 = .ok (.istore_n 2, 1) := by decide +kernel
theorem dX4_worth_31 : decode cX4_worth 31 = .ok (.aload_n 0, 1) := by decide +kernel
theorem dX4_worth_32 : decode cX4_worth 32 = .ok (.getfield 62, 3) := by decide +kernel
theorem dX4_worth_35 : decode cX4_worth 35 = .ok (.iload_n 1, 1) := by decide +kernel
theorem dX4_worth_36 : decode cX4_worth 36 = .ok (.sipush 256, 3) := by decide +kernel
theorem dX4_worth_39 : decode cX4_worth 39 = .ok (.iastore, 1) := by decide +kernel
theorem dX4_worth_40 : decode cX4_worth 40 = .ok (.aload_n 0, 1) := by decide +kernel
theorem dX4_worth_41 : decode cX4_worth 41 = .ok (.invokevirtual 126, 3) := by decide +kernel
theorem dX4_worth_44 : decode cX4_worth 44 = .ok (.iload_n 2, 1) := by decide +kernel
theorem dX4_worth_45 : decode cX4_worth 45 = .ok (.isub, 1) := by decide +kernel
theorem dX4_worth_46 : decode cX4_worth 46 = .ok (.ireturn, 1) := by decide +kernel
set_option maxRecDepth 20000 in
theorem ggX4_plains_X4_amounts : GoodIn wsX4_plains wsX4_amounts := goodIn_r _ [8, 9, 10, 11, 12, 7, 13, 14, 15, 16, 17, 18, 19, 20, 21, 22, 23, 24, 25, 26, 27, 28, 29, 30, 31, 32, 33, 34, 35, 36, 37] (by decide +kernel) (by decide +kernel)
set_option maxRecDepth 20000 in
theorem gX4_plains_X4_amounts : GoodIn wsX4_plains (wsV RX4 103 RX4 yX4_amounts wsX4_amounts) := goodIn_app (goodIn_of _ (by decide +kernel)) ggX4_plains_X4_amounts
set_option maxRecDepth 20000 in
theorem ggX4_plains_X4_percent : GoodIn wsX4_plains wsX4_percent := goodIn_r _ [13, 14] (by decide +kernel) (by decide +kernel)
set_option maxRecDepth 20000 in
theorem gX4_plains_X4_percent : GoodIn wsX4_plains (va_wsS RX4 99 yX4_percent wsX4_percent) := goodIn_app (goodIn_of _ (by decide +kernel)) ggX4_plains_X4_percent
theorem dX4_plains_0 : decode cX4_plains 0 = .ok (.iconst 0, 1) := by decide +kernel
theorem dX4_plains_1 : decode cX4_plains 1 = .ok (.istore_n 1, 1) := by decide +kernel
theorem dX4_plains_2 : decode cX4_plains 2 = .ok (.iconst 0, 1) := by decide +kernel
theorem dX4_plains_3 : decode cX4_plains 3 = .ok (.istore_n 2, 1) := by decide +kernel
theorem dX4_plains_4 : decode cX4_plains 4 = .ok (.iload_n 2, 1) := by decide +kernel
theorem dX4_plains_5 : decode cX4_plains 5 = .ok (.aload_n 0, 1) := by decide +kernel
theorem dX4_plains_6 : decode cX4_plains 6 = .ok (.getfield 75, 3) := by decide +kernel
theorem dX4_plains_9 : decode cX4_plains 9 = .ok (.if_icmp .ge 31, 3) := by decide +kernel
theorem dX4_plains_12 : decode cX4_plains 12 = .ok (.iload_n 1, 1) := by decide +kernel
theorem dX4_plains_13 : decode cX4_plains 13 = .ok (.aload_n 0, 1) := by decide +kernel
theorem dX4_plains_14 : decode cX4_plains 14 = .ok (.iload_n 2, 1) := by decide +kernel
theorem dX4_plains_15 : decode cX4_plains 15 = .ok (.invokevirtual 103, 3) := by decide +kernel
theorem dX4_plains_18 : decode cX4_plains 18 = .ok (.aload_n 0, 1) := by decide +kernel
theorem dX4_plains_19 : decode cX4_plains 19 = .ok (.getfield 13, 3) := by decide +kernel
theorem dX4_plains_22 : decode cX4_plains 22 = .ok (.aload_n 0, 1) := by decide +kernel
theorem dX4_plains_23 : decode cX4_plains 23 = .ok (.getfield 20, 3) := by decide +kernel
theorem dX4_plains_26 : decode cX4_plains 26 = .ok (.iload_n 2, 1) := by decide +kernel
theorem dX4_plains_27 : decode cX4_plains 27 = .ok (.iaload, 1) := by decide +kernel
theorem dX4_plains_28 : decode cX4_plains 28 = .ok (.iaload, 1) := by decide +kernel
theorem dX4_plains_29 : decode cX4_plains 29 = .ok (.invokestatic 99, 3) := by decide +kernel
theorem dX4_plains_32 : decode cX4_plains 32 = .ok (.iadd, 1) := by decide +kernel
theorem dX4_plains_33 : decode cX4_plains 33 = .ok (.istore_n 1, 1) := by decide +kernel
theorem dX4_plains_34 : decode cX4_plains 34 = .ok (.iinc 2 1, 3) := by decide +kernel
theorem dX4_plains_37 : decode cX4_plains 37 = .ok (.goto (-33), 3) := by decide +kernel
theorem dX4_plains_40 : decode cX4_plains 40 = .ok (.iload_n 1, 1) := by decide +kernel
theorem dX4_plains_41 : decode cX4_plains 41 = .ok (.ireturn, 1) := by decide +kernel
set_option maxRecDepth 20000 in
theorem ggX4_plain_X4_plains : GoodIn wsX4_plain wsX4_plains := goodIn_r _ [6, 7, 8, 9, 10, 11, 12, 5, 13, 14, 15, 16, 17, 18, 19, 20, 21, 22, 23, 24, 25, 26, 27, 28, 29, 30, 31, 32, 33, 34, 35, 36, 37, 38, 39, 40, 41, 42] (by decide +kernel) (by decide +kernel)
set_option maxRecDepth 20000 in
theorem gX4_plain_X4_plains : GoodIn wsX4_plain (wsV RX4 139 RX4 yX4_plains wsX4_plains) := goodIn_app (goodIn_of _ (by decide +kernel)) ggX4_plain_X4_plains
theorem dX4_plain_0 : decode cX4_plain 0 = .ok (.aload_n 0, 1) := by decide +kernel
theorem dX4_plain_1 : decode cX4_plain 1 = .ok (.iconst 0, 1) := by decide +kernel
theorem dX4_plain_2 : decode cX4_plain 2 = .ok (.putfield 68, 3) := by decide +kernel
theorem dX4_plain_5 : decode cX4_plain 5 = .ok (.aload_n 0, 1) := by decide +kernel
theorem dX4_plain_6 : decode cX4_plain 6 = .ok (.invokevirtual 139, 3) := by decide +kernel
theorem dX4_plain_9 : decode cX4_plain 9 = .ok (.ireturn, 1) := by decide +kernel
set_option maxRecDepth 20000 in
theorem ggX4_required_X4_plains : GoodIn wsX4_required wsX4_plains := goodIn_r _ [7, 8, 9, 10, 11, 12, 13, 6, 14, 15, 16, 17, 18, 19, 20, 64, 65, 66, 67, 68, 69, 70, 71, 72, 73, 74, 75, 76, 77, 78, 79, 80, 81, 82, 83, 84, 85, 86] (by decide +kernel) (by decide +kernel)
set_option maxRecDepth 20000 in
theorem gX4_required_X4_plains : GoodIn wsX4_required (wsV RX4 139 RX4 yX4_plains wsX4_plains) := goodIn_app (goodIn_of _ (by decide +kernel)) ggX4_required_X4_plains
set_option maxRecDepth 20000 in
theorem ggX4_required_X4_percent : GoodIn wsX4_required wsX4_percent := goodIn_r _ [19, 20] (by decide +kernel) (by decide +kernel)
set_option maxRecDepth 20000 in
theorem gX4_required_X4_percent : GoodIn wsX4_required (va_wsS RX4 99 yX4_percent wsX4_percent) := goodIn_app (goodIn_of _ (by decide +kernel)) ggX4_required_X4_percent
set_option maxRecDepth 20000 in
theorem ggX4_required_X4_wholes : GoodIn wsX4_required wsX4_wholes := goodIn_r _ [24, 25, 26, 27, 6, 28, 8, 29, 30, 31, 32, 33, 34, 35, 36, 37, 10, 38, 39, 40, 41, 42, 43, 11, 12, 13, 14, 15, 16, 17, 18, 19, 20, 44, 45, 46, 47, 48, 49, 50, 51, 52, 53, 54, 55, 56, 57, 58, 59, 60, 61, 62, 63, 64, 65, 66, 67, 68, 69, 70, 71, 72, 73, 74, 75, 76, 77, 78, 79, 80, 81, 82, 83, 84, 85, 86] (by decide +kernel) (by decide +kernel)
set_option maxRecDepth 20000 in
theorem gX4_required_X4_wholes : GoodIn wsX4_required (wsV RX4 136 RX4 yX4_wholes wsX4_wholes) := goodIn_app (goodIn_of _ (by decide +kernel)) ggX4_required_X4_wholes
theorem dX4_required_0 : decode cX4_required 0 = .ok (.aload_n 0, 1) := by decide +kernel
theorem dX4_required_1 : decode cX4_required 1 = .ok (.iconst 0, 1) := by decide +kernel
theorem dX4_required_2 : decode cX4_required 2 = .ok (.putfield 68, 3) := by decide +kernel
theorem dX4_required_5 : decode cX4_required 5 = .ok (.aload_n 0, 1) := by decide +kernel
theorem dX4_required_6 : decode cX4_required 6 = .ok (.invokevirtual 139, 3) := by decide +kernel
theorem dX4_required_9 : decode cX4_required 9 = .ok (.aload_n 0, 1) := by decide +kernel
theorem dX4_required_10 : decode cX4_required 10 = .ok (.getfield 16, 3) := by decide +kernel
theorem dX4_required_13 : decode cX4_required 13 = .ok (.invokestatic 99, 3) := by decide +kernel
theorem dX4_required_16 : decode cX4_required 16 = .ok (.istore_n 1, 1) := by decide +kernel
theorem dX4_required_17 : decode cX4_required 17 = .ok (.aload_n 0, 1) := by decide +kernel
theorem dX4_required_18 : decode cX4_required 18 = .ok (.invokevirtual 136, 3) := by decide +kernel
theorem dX4_required_21 : decode cX4_required 21 = .ok (.istore_n 2, 1) := by decide +kernel
theorem dX4_required_22 : decode cX4_required 22 = .ok (.iload_n 2, 1) := by decide +kernel
theorem dX4_required_23 : decode cX4_required 23 = .ok (.iload_n 1, 1) := by decide +kernel
theorem dX4_required_24 : decode cX4_required 24 = .ok (.if_icmp .le 7, 3) := by decide +kernel
theorem dX4_required_27 : decode cX4_required 27 = .ok (.iload_n 2, 1) := by decide +kernel
theorem dX4_required_28 : decode cX4_required 28 = .ok (.goto 4, 3) := by decide +kernel
theorem dX4_required_31 : decode cX4_required 31 = .ok (.iload_n 1, 1) := by decide +kernel
theorem dX4_required_32 : decode cX4_required 32 = .ok (.ireturn, 1) := by decide +kernel
set_option maxRecDepth 20000 in
theorem ggX4_baredOf_X4_setOf : GoodIn wsX4_baredOf wsX4_setOf := goodIn_r _ [7, 8, 9, 34, 35, 36, 37, 38, 39, 40, 41, 42, 43, 44, 45, 46, 47, 48, 49, 50, 51, 52, 53, 54, 55, 56] (by decide +kernel) (by decide +kernel)
set_option maxRecDepth 20000 in
theorem gX4_baredOf_X4_setOf : GoodIn wsX4_baredOf (wsV RX4 133 RX4 yX4_setOf wsX4_setOf) := goodIn_app (goodIn_of _ (by decide +kernel)) ggX4_baredOf_X4_setOf
set_option maxRecDepth 20000 in
theorem ggX4_baredOf_X4_bared : GoodIn wsX4_baredOf wsX4_bared := goodIn_r _ [13, 8, 14, 15, 16, 6, 17, 18, 19, 20, 21, 22, 23, 24, 25, 26, 27, 28, 29, 30, 31, 32, 33, 34, 35, 36, 37, 38, 39, 40, 41, 42, 43, 44, 45, 46, 47, 48, 49, 50, 51, 52, 53, 54, 55, 56] (by decide +kernel) (by decide +kernel)
set_option maxRecDepth 20000 in
theorem gX4_baredOf_X4_bared : GoodIn wsX4_baredOf (wsV RX4 113 RX4 yX4_bared wsX4_bared) := goodIn_app (goodIn_of _ (by decide +kernel)) ggX4_baredOf_X4_bared
theorem dX4_baredOf_0 : decode cX4_baredOf 0 = .ok (.iconst 0, 1) := by decide +kernel
theorem dX4_baredOf_1 : decode cX4_baredOf 1 = .ok (.istore_n 2, 1) := by decide +kernel
theorem dX4_baredOf_2 : decode cX4_baredOf 2 = .ok (.iconst 0, 1) := by decide +kernel
theorem dX4_baredOf_3 : decode cX4_baredOf 3 = .ok (.istore_n 3, 1) := by decide +kernel
theorem dX4_baredOf_4 : decode cX4_baredOf 4 = .ok (.iload_n 3, 1) := by decide +kernel
theorem dX4_baredOf_5 : decode cX4_baredOf 5 = .ok (.aload_n 0, 1) := by decide +kernel
theorem dX4_baredOf_6 : decode cX4_baredOf 6 = .ok (.getfield 75, 3) := by decide +kernel
theorem dX4_baredOf_9 : decode cX4_baredOf 9 = .ok (.if_icmp .ge 36, 3) := by decide +kernel
theorem dX4_baredOf_12 : decode cX4_baredOf 12 = .ok (.iload_n 2, 1) := by decide +kernel
theorem dX4_baredOf_13 : decode cX4_baredOf 13 = .ok (.aload_n 0, 1) := by decide +kernel
theorem dX4_baredOf_14 : decode cX4_baredOf 14 = .ok (.getfield 23, 3) := by decide +kernel
theorem dX4_baredOf_17 : decode cX4_baredOf 17 = .ok (.iload_n 3, 1) := by decide +kernel
theorem dX4_baredOf_18 : decode cX4_baredOf 18 = .ok (.iaload, 1) := by decide +kernel
theorem dX4_baredOf_19 : decode cX4_baredOf 19 = .ok (.iload_n 1, 1) := by decide +kernel
theorem dX4_baredOf_20 : decode cX4_baredOf 20 = .ok (.if_icmp .ne 16, 3) := by decide +kernel
theorem dX4_baredOf_23 : decode cX4_baredOf 23 = .ok (.aload_n 0, 1) := by decide +kernel
theorem dX4_baredOf_24 : decode cX4_baredOf 24 = .ok (.iload_n 3, 1) := by decide +kernel
theorem dX4_baredOf_25 : decode cX4_baredOf 25 = .ok (.aload_n 0, 1) := by decide +kernel
theorem dX4_baredOf_26 : decode cX4_baredOf 26 = .ok (.iload_n 3, 1) := by decide +kernel
theorem dX4_baredOf_27 : decode cX4_baredOf 27 = .ok (.invokevirtual 133, 3) := by decide +kernel
theorem dX4_baredOf_30 : decode cX4_baredOf 30 = .ok (.invokevirtual 113, 3) := by decide +kernel
theorem dX4_baredOf_33 : decode cX4_baredOf 33 = .ok (.goto 4, 3) := by decide +kernel
theorem dX4_baredOf_36 : decode cX4_baredOf 36 = .ok (.iconst 0, 1) := by decide +kernel
theorem dX4_baredOf_37 : decode cX4_baredOf 37 = .ok (.iadd, 1) := by decide +kernel
theorem dX4_baredOf_38 : decode cX4_baredOf 38 = .ok (.istore_n 2, 1) := by decide +kernel
theorem dX4_baredOf_39 : decode cX4_baredOf 39 = .ok (.iinc 3 1, 3) := by decide +kernel
theorem dX4_baredOf_42 : decode cX4_baredOf 42 = .ok (.goto (-38), 3) := by decide +kernel
theorem dX4_baredOf_45 : decode cX4_baredOf 45 = .ok (.iload_n 2, 1) := by decide +kernel
theorem dX4_baredOf_46 : decode cX4_baredOf 46 = .ok (.ireturn, 1) := by decide +kernel
set_option maxRecDepth 20000 in
theorem ggX4_partyBare_X4_isFour : GoodIn wsX4_partyBare wsX4_isFour := goodIn_r _ [5, 6, 7, 4, 8] (by decide +kernel) (by decide +kernel)
set_option maxRecDepth 20000 in
theorem gX4_partyBare_X4_isFour : GoodIn wsX4_partyBare (va_wsS RX4 83 yX4_isFour wsX4_isFour) := goodIn_app (goodIn_of _ (by decide +kernel)) ggX4_partyBare_X4_isFour
set_option maxRecDepth 20000 in
theorem ggX4_partyBare_X4_bests : GoodIn wsX4_partyBare wsX4_bests := goodIn_r _ [12, 13, 14, 15, 16, 17, 4, 18, 19, 20, 21, 22, 23, 24, 25, 26, 27, 28, 29, 30, 31, 32, 33, 34, 35, 36, 37, 38, 39, 40, 41, 42, 43, 44, 45, 46, 47, 48, 49, 50, 51, 52, 53, 54, 55, 56, 57, 58, 59, 60, 61, 62, 63, 73, 74, 75, 76, 77, 78, 79, 80, 81, 82, 83, 84, 85, 86, 87, 88, 89, 90, 91, 92, 93, 94, 95] (by decide +kernel) (by decide +kernel)
set_option maxRecDepth 20000 in
theorem gX4_partyBare_X4_bests : GoodIn wsX4_partyBare (wsV RX4 130 RX4 yX4_bests wsX4_bests) := goodIn_app (goodIn_of _ (by decide +kernel)) ggX4_partyBare_X4_bests
set_option maxRecDepth 20000 in
theorem ggX4_partyBare_X4_baredOf : GoodIn wsX4_partyBare wsX4_baredOf := goodIn_r _ [67, 19, 68, 69, 70, 71, 4, 72, 13, 14, 30, 31, 32, 33, 34, 35, 36, 37, 38, 39, 40, 41, 42, 43, 44, 45, 46, 47, 48, 49, 50, 51, 52, 53, 73, 74, 75, 76, 77, 78, 79, 80, 81, 82, 83, 84, 85, 86, 87, 88, 89, 90, 91, 92, 93, 94, 95] (by decide +kernel) (by decide +kernel)
set_option maxRecDepth 20000 in
theorem gX4_partyBare_X4_baredOf : GoodIn wsX4_partyBare (wsV RX4 142 RX4 yX4_baredOf wsX4_baredOf) := goodIn_app (goodIn_of _ (by decide +kernel)) ggX4_partyBare_X4_baredOf
theorem dX4_partyBare_0 : decode cX4_partyBare 0 = .ok (.aload_n 0, 1) := by decide +kernel
theorem dX4_partyBare_1 : decode cX4_partyBare 1 = .ok (.iload_n 1, 1) := by decide +kernel
theorem dX4_partyBare_2 : decode cX4_partyBare 2 = .ok (.invokestatic 83, 3) := by decide +kernel
theorem dX4_partyBare_5 : decode cX4_partyBare 5 = .ok (.ifCond .eq 7, 3) := by decide +kernel
theorem dX4_partyBare_8 : decode cX4_partyBare 8 = .ok (.iconst 0, 1) := by decide +kernel
theorem dX4_partyBare_9 : decode cX4_partyBare 9 = .ok (.goto 4, 3) := by decide +kernel
theorem dX4_partyBare_12 : decode cX4_partyBare 12 = .ok (.iconst 1, 1) := by decide +kernel
theorem dX4_partyBare_13 : decode cX4_partyBare 13 = .ok (.putfield 68, 3) := by decide +kernel
theorem dX4_partyBare_16 : decode cX4_partyBare 16 = .ok (.aload_n 0, 1) := by decide +kernel
theorem dX4_partyBare_17 : decode cX4_partyBare 17 = .ok (.getfield 68, 3) := by decide +kernel
theorem dX4_partyBare_20 : decode cX4_partyBare 20 = .ok (.ifCond .le 5, 3) := by decide +kernel
theorem dX4_partyBare_23 : decode cX4_partyBare 23 = .ok (.iconst 0, 1) := by decide +kernel
theorem dX4_partyBare_24 : decode cX4_partyBare 24 = .ok (.ireturn, 1) := by decide +kernel
theorem dX4_partyBare_25 : decode cX4_partyBare 25 = .ok (.aload_n 0, 1) := by decide +kernel
theorem dX4_partyBare_26 : decode cX4_partyBare 26 = .ok (.invokevirtual 130, 3) := by decide +kernel
theorem dX4_partyBare_29 : decode cX4_partyBare 29 = .ok (.pop, 1) := by decide +kernel
theorem dX4_partyBare_30 : decode cX4_partyBare 30 = .ok (.aload_n 0, 1) := by decide +kernel
theorem dX4_partyBare_31 : decode cX4_partyBare 31 = .ok (.iload_n 1, 1) := by decide +kernel
theorem dX4_partyBare_32 : decode cX4_partyBare 32 = .ok (.invokevirtual 142, 3) := by decide +kernel
theorem dX4_partyBare_35 : decode cX4_partyBare 35 = .ok (.ireturn, 1) := by decide +kernel
set_option maxRecDepth 20000 in
theorem ggX4_tooLarge_X4_bests : GoodIn wsX4_tooLarge wsX4_bests := goodIn_r _ [8, 9, 10, 11, 12, 13, 7, 14, 15, 16, 17, 18, 19, 20, 21, 22, 23, 24, 25, 26, 27, 28, 29, 30, 31, 32, 33, 34, 35, 36, 37, 38, 39, 40, 41, 42, 43, 44, 45, 46, 47, 48, 49, 50, 51, 52, 53, 54, 55, 56, 57, 58, 59, 69, 70, 71, 72, 73, 74, 75, 76, 77, 78, 79, 80, 81, 82, 83, 84, 85, 86, 87, 88, 89, 90, 91] (by decide +kernel) (by decide +kernel)
set_option maxRecDepth 20000 in
theorem gX4_tooLarge_X4_bests : GoodIn wsX4_tooLarge (wsV RX4 130 RX4 yX4_bests wsX4_bests) := goodIn_app (goodIn_of _ (by decide +kernel)) ggX4_tooLarge_X4_bests
set_option maxRecDepth 20000 in
theorem ggX4_tooLarge_X4_baredOf : GoodIn wsX4_tooLarge wsX4_baredOf := goodIn_r _ [63, 15, 64, 65, 66, 67, 7, 68, 9, 10, 26, 27, 28, 29, 30, 31, 32, 33, 34, 35, 36, 37, 38, 39, 40, 41, 42, 43, 44, 45, 46, 47, 48, 49, 69, 70, 71, 72, 73, 74, 75, 76, 77, 78, 79, 80, 81, 82, 83, 84, 85, 86, 87, 88, 89, 90, 91] (by decide +kernel) (by decide +kernel)
set_option maxRecDepth 20000 in
theorem gX4_tooLarge_X4_baredOf : GoodIn wsX4_tooLarge (wsV RX4 142 RX4 yX4_baredOf wsX4_baredOf) := goodIn_app (goodIn_of _ (by decide +kernel)) ggX4_tooLarge_X4_baredOf
theorem dX4_tooLarge_0 : decode cX4_tooLarge 0 = .ok (.aload_n 0, 1) := by decide +kernel
theorem dX4_tooLarge_1 : decode cX4_tooLarge 1 = .ok (.iconst 0, 1) := by decide +kernel
theorem dX4_tooLarge_2 : decode cX4_tooLarge 2 = .ok (.putfield 68, 3) := by decide +kernel
theorem dX4_tooLarge_5 : decode cX4_tooLarge 5 = .ok (.aload_n 0, 1) := by decide +kernel
theorem dX4_tooLarge_6 : decode cX4_tooLarge 6 = .ok (.invokevirtual 130, 3) := by decide +kernel
theorem dX4_tooLarge_9 : decode cX4_tooLarge 9 = .ok (.pop, 1) := by decide +kernel
theorem dX4_tooLarge_10 : decode cX4_tooLarge 10 = .ok (.iconst 0, 1) := by decide +kernel
theorem dX4_tooLarge_11 : decode cX4_tooLarge 11 = .ok (.istore_n 1, 1) := by decide +kernel
theorem dX4_tooLarge_12 : decode cX4_tooLarge 12 = .ok (.iconst 0, 1) := by decide +kernel
theorem dX4_tooLarge_13 : decode cX4_tooLarge 13 = .ok (.istore_n 2, 1) := by decide +kernel
theorem dX4_tooLarge_14 : decode cX4_tooLarge 14 = .ok (.iload_n 2, 1) := by decide +kernel
theorem dX4_tooLarge_15 : decode cX4_tooLarge 15 = .ok (.iconst 4, 1) := by decide +kernel
theorem dX4_tooLarge_16 : decode cX4_tooLarge 16 = .ok (.if_icmp .ge 38, 3) := by decide +kernel
theorem dX4_tooLarge_19 : decode cX4_tooLarge 19 = .ok (.iload_n 1, 1) := by decide +kernel
theorem dX4_tooLarge_20 : decode cX4_tooLarge 20 = .ok (.ldc2_w 145, 3) := by decide +kernel
theorem dX4_tooLarge_23 : decode cX4_tooLarge 23 = .ok (.aload_n 0, 1) := by decide +kernel
theorem dX4_tooLarge_24 : decode cX4_tooLarge 24 = .ok (.iload_n 2, 1) := by decide +kernel
theorem dX4_tooLarge_25 : decode cX4_tooLarge 25 = .ok (.invokevirtual 142, 3) := by decide +kernel
theorem dX4_tooLarge_28 : decode cX4_tooLarge 28 = .ok (.i2l, 1) := by decide +kernel
theorem dX4_tooLarge_29 : decode cX4_tooLarge 29 = .ok (.lmul, 1) := by decide +kernel
theorem dX4_tooLarge_30 : decode cX4_tooLarge 30 = .ok (.aload_n 0, 1) := by decide +kernel
theorem dX4_tooLarge_31 : decode cX4_tooLarge 31 = .ok (.getfield 88, 3) := by decide +kernel
theorem dX4_tooLarge_34 : decode cX4_tooLarge 34 = .ok (.i2l, 1) := by decide +kernel
theorem dX4_tooLarge_35 : decode cX4_tooLarge 35 = .ok (.lcmp, 1) := by decide +kernel
theorem dX4_tooLarge_36 : decode cX4_tooLarge 36 = .ok (.ifCond .le 9, 3) := by decide +kernel
theorem dX4_tooLarge_39 : decode cX4_tooLarge 39 = .ok (.iconst 1, 1) := by decide +kernel
theorem dX4_tooLarge_40 : decode cX4_tooLarge 40 = .ok (.iload_n 2, 1) := by decide +kernel
theorem dX4_tooLarge_41 : decode cX4_tooLarge 41 = .ok (.ishl, 1) := by decide +kernel
theorem dX4_tooLarge_42 : decode cX4_tooLarge 42 = .ok (.goto 4, 3) := by decide +kernel
theorem dX4_tooLarge_45 : decode cX4_tooLarge 45 = .ok (.iconst 0, 1) := by decide +kernel
theorem dX4_tooLarge_46 : decode cX4_tooLarge 46 = .ok (.ior, 1) := by decide +kernel
theorem dX4_tooLarge_47 : decode cX4_tooLarge 47 = .ok (.istore_n 1, 1) := by decide +kernel
theorem dX4_tooLarge_48 : decode cX4_tooLarge 48 = .ok (.iinc 2 1, 3) := by decide +kernel
theorem dX4_tooLarge_51 : decode cX4_tooLarge 51 = .ok (.goto (-37), 3) := by decide +kernel
theorem dX4_tooLarge_54 : decode cX4_tooLarge 54 = .ok (.iload_n 1, 1) := by decide +kernel
theorem dX4_tooLarge_55 : decode cX4_tooLarge 55 = .ok (.ireturn, 1) := by decide +kernel
