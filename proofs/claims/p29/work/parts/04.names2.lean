theorem dX1_becomeProduct_115 : decode cX1_becomeProduct 115 = .ok (.iload_n 3, 1) := by decide +kernel
theorem dX1_becomeProduct_116 : decode cX1_becomeProduct 116 = .ok (.laload, 1) := by decide +kernel
theorem dX1_becomeProduct_117 : decode cX1_becomeProduct 117 = .ok (.ldc2_w 66, 3) := by decide +kernel
theorem dX1_becomeProduct_120 : decode cX1_becomeProduct 120 = .ok (.invokestatic 45, 3) := by decide +kernel
theorem dX1_becomeProduct_123 : decode cX1_becomeProduct 123 = .ok (.lastore, 1) := by decide +kernel
theorem dX1_becomeProduct_124 : decode cX1_becomeProduct 124 = .ok (.iinc 3 1, 3) := by decide +kernel
theorem dX1_becomeProduct_127 : decode cX1_becomeProduct 127 = .ok (.goto (-30), 3) := by decide +kernel
theorem dX1_becomeProduct_130 : decode cX1_becomeProduct 130 = .ok (.aload_n 0, 1) := by decide +kernel
theorem dX1_becomeProduct_131 : decode cX1_becomeProduct 131 = .ok (.invokevirtual 53, 3) := by decide +kernel
theorem dX1_becomeProduct_134 : decode cX1_becomeProduct 134 = .ok (.return_, 1) := by decide +kernel
set_option maxRecDepth 20000 in
theorem ggX1_becomeDerivative_X1_clear : GoodIn wsX1_becomeDerivative wsX1_clear := goodIn_r _ [7, 8, 1, 9, 10, 11, 12, 33, 34] (by decide +kernel) (by decide +kernel)
set_option maxRecDepth 20000 in
theorem gX1_becomeDerivative_X1_clear : GoodIn wsX1_becomeDerivative (wsV RX1 56 RX1 yX1_clear wsX1_clear) := goodIn_app (goodIn_of _ (by decide +kernel)) ggX1_becomeDerivative_X1_clear
set_option maxRecDepth 20000 in
theorem ggX1_becomeDerivative_X1_at : GoodIn wsX1_becomeDerivative wsX1_at := goodIn_r _ [16, 8, 33, 34] (by decide +kernel) (by decide +kernel)
set_option maxRecDepth 20000 in
theorem gX1_becomeDerivative_X1_at : GoodIn wsX1_becomeDerivative (wsV RX1 25 RX1 yX1_at wsX1_at) := goodIn_app (goodIn_of _ (by decide +kernel)) ggX1_becomeDerivative_X1_at
set_option maxRecDepth 20000 in
theorem ggX1_becomeDerivative_X1_put : GoodIn wsX1_becomeDerivative wsX1_put := goodIn_r _ [20, 8, 33, 34] (by decide +kernel) (by decide +kernel)
set_option maxRecDepth 20000 in
theorem gX1_becomeDerivative_X1_put : GoodIn wsX1_becomeDerivative (wsV RX1 59 RX1 yX1_put wsX1_put) := goodIn_app (goodIn_of _ (by decide +kernel)) ggX1_becomeDerivative_X1_put
set_option maxRecDepth 20000 in
theorem ggX1_becomeDerivative_X2_rounded : GoodIn wsX1_becomeDerivative wsX2_rounded := goodIn_r _ [23, 24, 25, 26, 27, 28] (by decide +kernel) (by decide +kernel)
set_option maxRecDepth 20000 in
theorem gX1_becomeDerivative_X2_rounded_n45 : GoodIn wsX1_becomeDerivative (wsX2_rounded) := ggX1_becomeDerivative_X2_rounded
set_option maxRecDepth 20000 in
theorem ggX1_becomeDerivative_X1_trim : GoodIn wsX1_becomeDerivative wsX1_trim := goodIn_r _ [32, 1, 8, 33, 34] (by decide +kernel) (by decide +kernel)
set_option maxRecDepth 20000 in
theorem gX1_becomeDerivative_X1_trim : GoodIn wsX1_becomeDerivative (wsV RX1 53 RX1 yX1_trim wsX1_trim) := goodIn_app (goodIn_of _ (by decide +kernel)) ggX1_becomeDerivative_X1_trim
theorem dX1_becomeDerivative_0 : decode cX1_becomeDerivative 0 = .ok (.aload_n 0, 1) := by decide +kernel
theorem dX1_becomeDerivative_1 : decode cX1_becomeDerivative 1 = .ok (.invokevirtual 56, 3) := by decide +kernel
theorem dX1_becomeDerivative_4 : decode cX1_becomeDerivative 4 = .ok (.aload_n 1, 1) := by decide +kernel
theorem dX1_becomeDerivative_5 : decode cX1_becomeDerivative 5 = .ok (.getfield 15, 3) := by decide +kernel
theorem dX1_becomeDerivative_8 : decode cX1_becomeDerivative 8 = .ok (.istore_n 2, 1) := by decide +kernel
theorem dX1_becomeDerivative_9 : decode cX1_becomeDerivative 9 = .ok (.iload_n 2, 1) := by decide +kernel
theorem dX1_becomeDerivative_10 : decode cX1_becomeDerivative 10 = .ok (.iconst 1, 1) := by decide +kernel
theorem dX1_becomeDerivative_11 : decode cX1_becomeDerivative 11 = .ok (.if_icmp .lt 34, 3) := by decide +kernel
theorem dX1_becomeDerivative_14 : decode cX1_becomeDerivative 14 = .ok (.aload_n 0, 1) := by decide +kernel
theorem dX1_becomeDerivative_15 : decode cX1_becomeDerivative 15 = .ok (.iload_n 2, 1) := by decide +kernel
theorem dX1_becomeDerivative_16 : decode cX1_becomeDerivative 16 = .ok (.iconst 1, 1) := by decide +kernel
theorem dX1_becomeDerivative_17 : decode cX1_becomeDerivative 17 = .ok (.isub, 1) := by decide +kernel
theorem dX1_becomeDerivative_18 : decode cX1_becomeDerivative 18 = .ok (.aload_n 0, 1) := by decide +kernel
theorem dX1_becomeDerivative_19 : decode cX1_becomeDerivative 19 = .ok (.iload_n 2, 1) := by decide +kernel
theorem dX1_becomeDerivative_20 : decode cX1_becomeDerivative 20 = .ok (.iconst 1, 1) := by decide +kernel
theorem dX1_becomeDerivative_21 : decode cX1_becomeDerivative 21 = .ok (.iadd, 1) := by decide +kernel
theorem dX1_becomeDerivative_22 : decode cX1_becomeDerivative 22 = .ok (.invokevirtual 25, 3) := by decide +kernel
theorem dX1_becomeDerivative_25 : decode cX1_becomeDerivative 25 = .ok (.iconst 2, 1) := by decide +kernel
theorem dX1_becomeDerivative_26 : decode cX1_becomeDerivative 26 = .ok (.iload_n 2, 1) := by decide +kernel
theorem dX1_becomeDerivative_27 : decode cX1_becomeDerivative 27 = .ok (.imul, 1) := by decide +kernel
theorem dX1_becomeDerivative_28 : decode cX1_becomeDerivative 28 = .ok (.i2l, 1) := by decide +kernel
theorem dX1_becomeDerivative_29 : decode cX1_becomeDerivative 29 = .ok (.aload_n 1, 1) := by decide +kernel
theorem dX1_becomeDerivative_30 : decode cX1_becomeDerivative 30 = .ok (.iload_n 2, 1) := by decide +kernel
theorem dX1_becomeDerivative_31 : decode cX1_becomeDerivative 31 = .ok (.invokevirtual 25, 3) := by decide +kernel
theorem dX1_becomeDerivative_34 : decode cX1_becomeDerivative 34 = .ok (.lmul, 1) := by decide +kernel
theorem dX1_becomeDerivative_35 : decode cX1_becomeDerivative 35 = .ok (.ladd, 1) := by decide +kernel
theorem dX1_becomeDerivative_36 : decode cX1_becomeDerivative 36 = .ok (.invokevirtual 59, 3) := by decide +kernel
theorem dX1_becomeDerivative_39 : decode cX1_becomeDerivative 39 = .ok (.iinc 2 (-1), 3) := by decide +kernel
theorem dX1_becomeDerivative_42 : decode cX1_becomeDerivative 42 = .ok (.goto (-33), 3) := by decide +kernel
theorem dX1_becomeDerivative_45 : decode cX1_becomeDerivative 45 = .ok (.aload_n 0, 1) := by decide +kernel
theorem dX1_becomeDerivative_46 : decode cX1_becomeDerivative 46 = .ok (.iconst 0, 1) := by decide +kernel
theorem dX1_becomeDerivative_47 : decode cX1_becomeDerivative 47 = .ok (.aload_n 0, 1) := by decide +kernel
theorem dX1_becomeDerivative_48 : decode cX1_becomeDerivative 48 = .ok (.iconst 0, 1) := by decide +kernel
theorem dX1_becomeDerivative_49 : decode cX1_becomeDerivative 49 = .ok (.invokevirtual 25, 3) := by decide +kernel
theorem dX1_becomeDerivative_52 : decode cX1_becomeDerivative 52 = .ok (.ldc2_w 41, 3) := by decide +kernel
theorem dX1_becomeDerivative_55 : decode cX1_becomeDerivative 55 = .ok (.invokestatic 45, 3) := by decide +kernel
theorem dX1_becomeDerivative_58 : decode cX1_becomeDerivative 58 = .ok (.invokevirtual 59, 3) := by decide +kernel
theorem dX1_becomeDerivative_61 : decode cX1_becomeDerivative 61 = .ok (.aload_n 0, 1) := by decide +kernel
theorem dX1_becomeDerivative_62 : decode cX1_becomeDerivative 62 = .ok (.invokevirtual 53, 3) := by decide +kernel
theorem dX1_becomeDerivative_65 : decode cX1_becomeDerivative 65 = .ok (.return_, 1) := by decide +kernel
set_option maxRecDepth 20000 in
theorem ggX1_becomeAntiderivative_X1_clear : GoodIn wsX1_becomeAntiderivative wsX1_clear := goodIn_r _ [7, 8, 1, 9, 10, 11, 12, 33, 34] (by decide +kernel) (by decide +kernel)
set_option maxRecDepth 20000 in
theorem gX1_becomeAntiderivative_X1_clear : GoodIn wsX1_becomeAntiderivative (wsV RX1 56 RX1 yX1_clear wsX1_clear) := goodIn_app (goodIn_of _ (by decide +kernel)) ggX1_becomeAntiderivative_X1_clear
set_option maxRecDepth 20000 in
theorem ggX1_becomeAntiderivative_X1_at : GoodIn wsX1_becomeAntiderivative wsX1_at := goodIn_r _ [16, 8, 33, 34] (by decide +kernel) (by decide +kernel)
set_option maxRecDepth 20000 in
theorem gX1_becomeAntiderivative_X1_at : GoodIn wsX1_becomeAntiderivative (wsV RX1 25 RX1 yX1_at wsX1_at) := goodIn_app (goodIn_of _ (by decide +kernel)) ggX1_becomeAntiderivative_X1_at
set_option maxRecDepth 20000 in
theorem ggX1_becomeAntiderivative_X2_rounded : GoodIn wsX1_becomeAntiderivative wsX2_rounded := goodIn_r _ [19, 20, 21, 22, 23, 24] (by decide +kernel) (by decide +kernel)
set_option maxRecDepth 20000 in
theorem gX1_becomeAntiderivative_X2_rounded_n45 : GoodIn wsX1_becomeAntiderivative (wsX2_rounded) := ggX1_becomeAntiderivative_X2_rounded
set_option maxRecDepth 20000 in
theorem ggX1_becomeAntiderivative_X1_put : GoodIn wsX1_becomeAntiderivative wsX1_put := goodIn_r _ [28, 8, 33, 34] (by decide +kernel) (by decide +kernel)
set_option maxRecDepth 20000 in
theorem gX1_becomeAntiderivative_X1_put : GoodIn wsX1_becomeAntiderivative (wsV RX1 59 RX1 yX1_put wsX1_put) := goodIn_app (goodIn_of _ (by decide +kernel)) ggX1_becomeAntiderivative_X1_put
set_option maxRecDepth 20000 in
theorem ggX1_becomeAntiderivative_X1_trim : GoodIn wsX1_becomeAntiderivative wsX1_trim := goodIn_r _ [32, 1, 8, 33, 34] (by decide +kernel) (by decide +kernel)
set_option maxRecDepth 20000 in
theorem gX1_becomeAntiderivative_X1_trim : GoodIn wsX1_becomeAntiderivative (wsV RX1 53 RX1 yX1_trim wsX1_trim) := goodIn_app (goodIn_of _ (by decide +kernel)) ggX1_becomeAntiderivative_X1_trim
theorem dX1_becomeAntiderivative_0 : decode cX1_becomeAntiderivative 0 = .ok (.aload_n 0, 1) := by decide +kernel
theorem dX1_becomeAntiderivative_1 : decode cX1_becomeAntiderivative 1 = .ok (.invokevirtual 56, 3) := by decide +kernel
theorem dX1_becomeAntiderivative_4 : decode cX1_becomeAntiderivative 4 = .ok (.lconst 0, 1) := by decide +kernel
theorem dX1_becomeAntiderivative_5 : decode cX1_becomeAntiderivative 5 = .ok (.lstore_n 2, 1) := by decide +kernel
theorem dX1_becomeAntiderivative_6 : decode cX1_becomeAntiderivative 6 = .ok (.iconst 1, 1) := by decide +kernel
theorem dX1_becomeAntiderivative_7 : decode cX1_becomeAntiderivative 7 = .ok (.istore 4, 2) := by decide +kernel
theorem dX1_becomeAntiderivative_9 : decode cX1_becomeAntiderivative 9 = .ok (.iload 4, 2) := by decide +kernel
theorem dX1_becomeAntiderivative_11 : decode cX1_becomeAntiderivative 11 = .ok (.aload_n 1, 1) := by decide +kernel
theorem dX1_becomeAntiderivative_12 : decode cX1_becomeAntiderivative 12 = .ok (.getfield 15, 3) := by decide +kernel
theorem dX1_becomeAntiderivative_15 : decode cX1_becomeAntiderivative 15 = .ok (.iconst 1, 1) := by decide +kernel
theorem dX1_becomeAntiderivative_16 : decode cX1_becomeAntiderivative 16 = .ok (.iadd, 1) := by decide +kernel
theorem dX1_becomeAntiderivative_17 : decode cX1_becomeAntiderivative 17 = .ok (.if_icmp .gt 86, 3) := by decide +kernel
theorem dX1_becomeAntiderivative_20 : decode cX1_becomeAntiderivative 20 = .ok (.iload 4, 2) := by decide +kernel
theorem dX1_becomeAntiderivative_22 : decode cX1_becomeAntiderivative 22 = .ok (.iconst 1, 1) := by decide +kernel
theorem dX1_becomeAntiderivative_23 : decode cX1_becomeAntiderivative 23 = .ok (.if_icmp .ne 15, 3) := by decide +kernel
theorem dX1_becomeAntiderivative_26 : decode cX1_becomeAntiderivative 26 = .ok (.ldc2_w 41, 3) := by decide +kernel
theorem dX1_becomeAntiderivative_29 : decode cX1_becomeAntiderivative 29 = .ok (.aload_n 1, 1) := by decide +kernel
theorem dX1_becomeAntiderivative_30 : decode cX1_becomeAntiderivative 30 = .ok (.iconst 0, 1) := by decide +kernel
theorem dX1_becomeAntiderivative_31 : decode cX1_becomeAntiderivative 31 = .ok (.invokevirtual 25, 3) := by decide +kernel
theorem dX1_becomeAntiderivative_34 : decode cX1_becomeAntiderivative 34 = .ok (.lmul, 1) := by decide +kernel
theorem dX1_becomeAntiderivative_35 : decode cX1_becomeAntiderivative 35 = .ok (.goto 11, 3) := by decide +kernel
theorem dX1_becomeAntiderivative_38 : decode cX1_becomeAntiderivative 38 = .ok (.aload_n 1, 1) := by decide +kernel
theorem dX1_becomeAntiderivative_39 : decode cX1_becomeAntiderivative 39 = .ok (.iload 4, 2) := by decide +kernel
theorem dX1_becomeAntiderivative_41 : decode cX1_becomeAntiderivative 41 = .ok (.iconst 1, 1) := by decide +kernel
theorem dX1_becomeAntiderivative_42 : decode cX1_becomeAntiderivative 42 = .ok (.isub, 1) := by decide +kernel
theorem dX1_becomeAntiderivative_43 : decode cX1_becomeAntiderivative 43 = .ok (.invokevirtual 25, 3) := by decide +kernel
theorem dX1_becomeAntiderivative_46 : decode cX1_becomeAntiderivative 46 = .ok (.lstore 5, 2) := by decide +kernel
theorem dX1_becomeAntiderivative_48 : decode cX1_becomeAntiderivative 48 = .ok (.lload 5, 2) := by decide +kernel
theorem dX1_becomeAntiderivative_50 : decode cX1_becomeAntiderivative 50 = .ok (.aload_n 1, 1) := by decide +kernel
theorem dX1_becomeAntiderivative_51 : decode cX1_becomeAntiderivative 51 = .ok (.iload 4, 2) := by decide +kernel
theorem dX1_becomeAntiderivative_53 : decode cX1_becomeAntiderivative 53 = .ok (.iconst 1, 1) := by decide +kernel
theorem dX1_becomeAntiderivative_54 : decode cX1_becomeAntiderivative 54 = .ok (.iadd, 1) := by decide +kernel
theorem dX1_becomeAntiderivative_55 : decode cX1_becomeAntiderivative 55 = .ok (.invokevirtual 25, 3) := by decide +kernel
theorem dX1_becomeAntiderivative_58 : decode cX1_becomeAntiderivative 58 = .ok (.lsub, 1) := by decide +kernel
theorem dX1_becomeAntiderivative_59 : decode cX1_becomeAntiderivative 59 = .ok (.ldc2_w 41, 3) := by decide +kernel
theorem dX1_becomeAntiderivative_62 : decode cX1_becomeAntiderivative 62 = .ok (.iload 4, 2) := by decide +kernel
theorem dX1_becomeAntiderivative_64 : decode cX1_becomeAntiderivative 64 = .ok (.i2l, 1) := by decide +kernel
theorem dX1_becomeAntiderivative_65 : decode cX1_becomeAntiderivative 65 = .ok (.lmul, 1) := by decide +kernel
theorem dX1_becomeAntiderivative_66 : decode cX1_becomeAntiderivative 66 = .ok (.invokestatic 45, 3) := by decide +kernel
theorem dX1_becomeAntiderivative_69 : decode cX1_becomeAntiderivative 69 = .ok (.lstore 7, 2) := by decide +kernel
theorem dX1_becomeAntiderivative_71 : decode cX1_becomeAntiderivative 71 = .ok (.aload_n 0, 1) := by decide +kernel
theorem dX1_becomeAntiderivative_72 : decode cX1_becomeAntiderivative 72 = .ok (.iload 4, 2) := by decide +kernel
theorem dX1_becomeAntiderivative_74 : decode cX1_becomeAntiderivative 74 = .ok (.lload 7, 2) := by decide +kernel
theorem dX1_becomeAntiderivative_76 : decode cX1_becomeAntiderivative 76 = .ok (.invokevirtual 59, 3) := by decide +kernel
theorem dX1_becomeAntiderivative_79 : decode cX1_becomeAntiderivative 79 = .ok (.lload_n 2, 1) := by decide +kernel
theorem dX1_becomeAntiderivative_80 : decode cX1_becomeAntiderivative 80 = .ok (.iload 4, 2) := by decide +kernel
theorem dX1_becomeAntiderivative_82 : decode cX1_becomeAntiderivative 82 = .ok (.iconst 2, 1) := by decide +kernel
theorem dX1_becomeAntiderivative_83 : decode cX1_becomeAntiderivative 83 = .ok (.irem, 1) := by decide +kernel
theorem dX1_becomeAntiderivative_84 : decode cX1_becomeAntiderivative 84 = .ok (.ifCond .ne 8, 3) := by decide +kernel
theorem dX1_becomeAntiderivative_87 : decode cX1_becomeAntiderivative 87 = .ok (.lload 7, 2) := by decide +kernel
theorem dX1_becomeAntiderivative_89 : decode cX1_becomeAntiderivative 89 = .ok (.goto 6, 3) := by decide +kernel
theorem dX1_becomeAntiderivative_92 : decode cX1_becomeAntiderivative 92 = .ok (.lload 7, 2) := by decide +kernel
theorem dX1_becomeAntiderivative_94 : decode cX1_becomeAntiderivative 94 = .ok (.lneg, 1) := by decide +kernel
theorem dX1_becomeAntiderivative_95 : decode cX1_becomeAntiderivative 95 = .ok (.ladd, 1) := by decide +kernel
theorem dX1_becomeAntiderivative_96 : decode cX1_becomeAntiderivative 96 = .ok (.lstore_n 2, 1) := by decide +kernel
theorem dX1_becomeAntiderivative_97 : decode cX1_becomeAntiderivative 97 = .ok (.iinc 4 1, 3) := by decide +kernel
theorem dX1_becomeAntiderivative_100 : decode cX1_becomeAntiderivative 100 = .ok (.goto (-91), 3) := by decide +kernel
theorem dX1_becomeAntiderivative_103 : decode cX1_becomeAntiderivative 103 = .ok (.aload_n 0, 1) := by decide +kernel
theorem dX1_becomeAntiderivative_104 : decode cX1_becomeAntiderivative 104 = .ok (.iconst 0, 1) := by decide +kernel
theorem dX1_becomeAntiderivative_105 : decode cX1_becomeAntiderivative 105 = .ok (.lload_n 2, 1) := by decide +kernel
theorem dX1_becomeAntiderivative_106 : decode cX1_becomeAntiderivative 106 = .ok (.lneg, 1) := by decide +kernel
theorem dX1_becomeAntiderivative_107 : decode cX1_becomeAntiderivative 107 = .ok (.invokevirtual 59, 3) := by decide +kernel
theorem dX1_becomeAntiderivative_110 : decode cX1_becomeAntiderivative 110 = .ok (.aload_n 0, 1) := by decide +kernel
theorem dX1_becomeAntiderivative_111 : decode cX1_becomeAntiderivative 111 = .ok (.invokevirtual 53, 3) := by decide +kernel
theorem dX1_becomeAntiderivative_114 : decode cX1_becomeAntiderivative 114 = .ok (.return_, 1) := by decide +kernel
set_option maxRecDepth 20000 in
theorem ggX1_becomeQuotient_X1_clear : GoodIn wsX1_becomeQuotient wsX1_clear := goodIn_r _ [8, 9, 1, 10, 11, 12, 13, 34, 35] (by decide +kernel) (by decide +kernel)
set_option maxRecDepth 20000 in
theorem gX1_becomeQuotient_X1_clear : GoodIn wsX1_becomeQuotient (wsV RX1 56 RX1 yX1_clear wsX1_clear) := goodIn_app (goodIn_of _ (by decide +kernel)) ggX1_becomeQuotient_X1_clear
set_option maxRecDepth 20000 in
theorem ggX1_becomeQuotient_X1_at : GoodIn wsX1_becomeQuotient wsX1_at := goodIn_r _ [17, 9, 34, 35] (by decide +kernel) (by decide +kernel)
set_option maxRecDepth 20000 in
theorem gX1_becomeQuotient_X1_at : GoodIn wsX1_becomeQuotient (wsV RX1 25 RX1 yX1_at wsX1_at) := goodIn_app (goodIn_of _ (by decide +kernel)) ggX1_becomeQuotient_X1_at
set_option maxRecDepth 20000 in
theorem ggX1_becomeQuotient_X2_rounded : GoodIn wsX1_becomeQuotient wsX2_rounded := goodIn_r _ [20, 21, 22, 23, 24, 25] (by decide +kernel) (by decide +kernel)
set_option maxRecDepth 20000 in
theorem gX1_becomeQuotient_X2_rounded_n45 : GoodIn wsX1_becomeQuotient (wsX2_rounded) := ggX1_becomeQuotient_X2_rounded
set_option maxRecDepth 20000 in
theorem ggX1_becomeQuotient_X1_put : GoodIn wsX1_becomeQuotient wsX1_put := goodIn_r _ [29, 9, 34, 35] (by decide +kernel) (by decide +kernel)
set_option maxRecDepth 20000 in
theorem gX1_becomeQuotient_X1_put : GoodIn wsX1_becomeQuotient (wsV RX1 59 RX1 yX1_put wsX1_put) := goodIn_app (goodIn_of _ (by decide +kernel)) ggX1_becomeQuotient_X1_put
set_option maxRecDepth 20000 in
theorem ggX1_becomeQuotient_X1_trim : GoodIn wsX1_becomeQuotient wsX1_trim := goodIn_r _ [33, 1, 9, 34, 35] (by decide +kernel) (by decide +kernel)
set_option maxRecDepth 20000 in
theorem gX1_becomeQuotient_X1_trim : GoodIn wsX1_becomeQuotient (wsV RX1 53 RX1 yX1_trim wsX1_trim) := goodIn_app (goodIn_of _ (by decide +kernel)) ggX1_becomeQuotient_X1_trim
theorem dX1_becomeQuotient_0 : decode cX1_becomeQuotient 0 = .ok (.aload_n 0, 1) := by decide +kernel
theorem dX1_becomeQuotient_1 : decode cX1_becomeQuotient 1 = .ok (.invokevirtual 56, 3) := by decide +kernel
theorem dX1_becomeQuotient_4 : decode cX1_becomeQuotient 4 = .ok (.aload_n 1, 1) := by decide +kernel
theorem dX1_becomeQuotient_5 : decode cX1_becomeQuotient 5 = .ok (.getfield 15, 3) := by decide +kernel
theorem dX1_becomeQuotient_8 : decode cX1_becomeQuotient 8 = .ok (.istore 4, 2) := by decide +kernel
theorem dX1_becomeQuotient_10 : decode cX1_becomeQuotient 10 = .ok (.iload 4, 2) := by decide +kernel
theorem dX1_becomeQuotient_12 : decode cX1_becomeQuotient 12 = .ok (.iconst 2, 1) := by decide +kernel
theorem dX1_becomeQuotient_13 : decode cX1_becomeQuotient 13 = .ok (.if_icmp .lt 55, 3) := by decide +kernel
theorem dX1_becomeQuotient_16 : decode cX1_becomeQuotient 16 = .ok (.aload_n 0, 1) := by decide +kernel
theorem dX1_becomeQuotient_17 : decode cX1_becomeQuotient 17 = .ok (.iload 4, 2) := by decide +kernel
theorem dX1_becomeQuotient_19 : decode cX1_becomeQuotient 19 = .ok (.iconst 1, 1) := by decide +kernel
theorem dX1_becomeQuotient_20 : decode cX1_becomeQuotient 20 = .ok (.isub, 1) := by decide +kernel
theorem dX1_becomeQuotient_21 : decode cX1_becomeQuotient 21 = .ok (.ldc2_w 41, 3) := by decide +kernel
theorem dX1_becomeQuotient_24 : decode cX1_becomeQuotient 24 = .ok (.aload_n 1, 1) := by decide +kernel
theorem dX1_becomeQuotient_25 : decode cX1_becomeQuotient 25 = .ok (.iload 4, 2) := by decide +kernel
theorem dX1_becomeQuotient_27 : decode cX1_becomeQuotient 27 = .ok (.invokevirtual 25, 3) := by decide +kernel
theorem dX1_becomeQuotient_30 : decode cX1_becomeQuotient 30 = .ok (.lmul, 1) := by decide +kernel
theorem dX1_becomeQuotient_31 : decode cX1_becomeQuotient 31 = .ok (.ldc2_w 41, 3) := by decide +kernel
theorem dX1_becomeQuotient_34 : decode cX1_becomeQuotient 34 = .ok (.lload_n 2, 1) := by decide +kernel
theorem dX1_becomeQuotient_35 : decode cX1_becomeQuotient 35 = .ok (.lmul, 1) := by decide +kernel
theorem dX1_becomeQuotient_36 : decode cX1_becomeQuotient 36 = .ok (.aload_n 0, 1) := by decide +kernel
theorem dX1_becomeQuotient_37 : decode cX1_becomeQuotient 37 = .ok (.iload 4, 2) := by decide +kernel
theorem dX1_becomeQuotient_39 : decode cX1_becomeQuotient 39 = .ok (.invokevirtual 25, 3) := by decide +kernel
theorem dX1_becomeQuotient_42 : decode cX1_becomeQuotient 42 = .ok (.lmul, 1) := by decide +kernel
theorem dX1_becomeQuotient_43 : decode cX1_becomeQuotient 43 = .ok (.ldc2_w 43, 3) := by decide +kernel
theorem dX1_becomeQuotient_46 : decode cX1_becomeQuotient 46 = .ok (.invokestatic 45, 3) := by decide +kernel
theorem dX1_becomeQuotient_49 : decode cX1_becomeQuotient 49 = .ok (.ladd, 1) := by decide +kernel
theorem dX1_becomeQuotient_50 : decode cX1_becomeQuotient 50 = .ok (.aload_n 0, 1) := by decide +kernel
theorem dX1_becomeQuotient_51 : decode cX1_becomeQuotient 51 = .ok (.iload 4, 2) := by decide +kernel
theorem dX1_becomeQuotient_53 : decode cX1_becomeQuotient 53 = .ok (.iconst 1, 1) := by decide +kernel
theorem dX1_becomeQuotient_54 : decode cX1_becomeQuotient 54 = .ok (.iadd, 1) := by decide +kernel
theorem dX1_becomeQuotient_55 : decode cX1_becomeQuotient 55 = .ok (.invokevirtual 25, 3) := by decide +kernel
theorem dX1_becomeQuotient_58 : decode cX1_becomeQuotient 58 = .ok (.lsub, 1) := by decide +kernel
theorem dX1_becomeQuotient_59 : decode cX1_becomeQuotient 59 = .ok (.invokevirtual 59, 3) := by decide +kernel
theorem dX1_becomeQuotient_62 : decode cX1_becomeQuotient 62 = .ok (.iinc 4 (-1), 3) := by decide +kernel
theorem dX1_becomeQuotient_65 : decode cX1_becomeQuotient 65 = .ok (.goto (-55), 3) := by decide +kernel
theorem dX1_becomeQuotient_68 : decode cX1_becomeQuotient 68 = .ok (.aload_n 0, 1) := by decide +kernel
theorem dX1_becomeQuotient_69 : decode cX1_becomeQuotient 69 = .ok (.iconst 0, 1) := by decide +kernel
theorem dX1_becomeQuotient_70 : decode cX1_becomeQuotient 70 = .ok (.aload_n 1, 1) := by decide +kernel
theorem dX1_becomeQuotient_71 : decode cX1_becomeQuotient 71 = .ok (.iconst 1, 1) := by decide +kernel
theorem dX1_becomeQuotient_72 : decode cX1_becomeQuotient 72 = .ok (.invokevirtual 25, 3) := by decide +kernel
theorem dX1_becomeQuotient_75 : decode cX1_becomeQuotient 75 = .ok (.lload_n 2, 1) := by decide +kernel
theorem dX1_becomeQuotient_76 : decode cX1_becomeQuotient 76 = .ok (.aload_n 0, 1) := by decide +kernel
theorem dX1_becomeQuotient_77 : decode cX1_becomeQuotient 77 = .ok (.iconst 1, 1) := by decide +kernel
theorem dX1_becomeQuotient_78 : decode cX1_becomeQuotient 78 = .ok (.invokevirtual 25, 3) := by decide +kernel
theorem dX1_becomeQuotient_81 : decode cX1_becomeQuotient 81 = .ok (.lmul, 1) := by decide +kernel
theorem dX1_becomeQuotient_82 : decode cX1_becomeQuotient 82 = .ok (.ldc2_w 43, 3) := by decide +kernel
theorem dX1_becomeQuotient_85 : decode cX1_becomeQuotient 85 = .ok (.invokestatic 45, 3) := by decide +kernel
theorem dX1_becomeQuotient_88 : decode cX1_becomeQuotient 88 = .ok (.ladd, 1) := by decide +kernel
theorem dX1_becomeQuotient_89 : decode cX1_becomeQuotient 89 = .ok (.aload_n 0, 1) := by decide +kernel
theorem dX1_becomeQuotient_90 : decode cX1_becomeQuotient 90 = .ok (.iconst 2, 1) := by decide +kernel
theorem dX1_becomeQuotient_91 : decode cX1_becomeQuotient 91 = .ok (.invokevirtual 25, 3) := by decide +kernel
theorem dX1_becomeQuotient_94 : decode cX1_becomeQuotient 94 = .ok (.ldc2_w 41, 3) := by decide +kernel
theorem dX1_becomeQuotient_97 : decode cX1_becomeQuotient 97 = .ok (.invokestatic 45, 3) := by decide +kernel
theorem dX1_becomeQuotient_100 : decode cX1_becomeQuotient 100 = .ok (.lsub, 1) := by decide +kernel
theorem dX1_becomeQuotient_101 : decode cX1_becomeQuotient 101 = .ok (.invokevirtual 59, 3) := by decide +kernel
theorem dX1_becomeQuotient_104 : decode cX1_becomeQuotient 104 = .ok (.aload_n 0, 1) := by decide +kernel
theorem dX1_becomeQuotient_105 : decode cX1_becomeQuotient 105 = .ok (.invokevirtual 53, 3) := by decide +kernel
theorem dX1_becomeQuotient_108 : decode cX1_becomeQuotient 108 = .ok (.return_, 1) := by decide +kernel
set_option maxRecDepth 20000 in
theorem ggX2_init_X0_init : GoodIn wsX2_init wsX0_init := goodIn_r _ [19, 20, 2, 3, 6, 21, 22, 34, 35, 36, 37, 38] (by decide +kernel) (by decide +kernel)
set_option maxRecDepth 20000 in
theorem gX2_init_X0_init_n21 : GoodIn wsX2_init (wsX0_init) := ggX2_init_X0_init
set_option maxRecDepth 20000 in
theorem ggX2_init_X1_init : GoodIn wsX2_init wsX1_init := goodIn_r _ [24, 25, 2, 3, 6, 26, 39, 40] (by decide +kernel) (by decide +kernel)
set_option maxRecDepth 20000 in
theorem gX2_init_X1_init_n26 : GoodIn wsX2_init (wsX1_init) := ggX2_init_X1_init
theorem dX2_init_0 : decode cX2_init 0 = .ok (.aload_n 0, 1) := by decide +kernel
theorem dX2_init_1 : decode cX2_init 1 = .ok (.invokespecial 1, 3) := by decide +kernel
theorem dX2_init_4 : decode cX2_init 4 = .ok (.aload_n 0, 1) := by decide +kernel
theorem dX2_init_5 : decode cX2_init 5 = .ok (.bipush 8, 2) := by decide +kernel
theorem dX2_init_7 : decode cX2_init 7 = .ok (.anewarray 9, 3) := by decide +kernel
theorem dX2_init_10 : decode cX2_init 10 = .ok (.putfield 11, 3) := by decide +kernel
theorem dX2_init_13 : decode cX2_init 13 = .ok (.aload_n 0, 1) := by decide +kernel
theorem dX2_init_14 : decode cX2_init 14 = .ok (.bipush 17, 2) := by decide +kernel
theorem dX2_init_16 : decode cX2_init 16 = .ok (.newarray .long, 2) := by decide +kernel
theorem dX2_init_18 : decode cX2_init 18 = .ok (.putfield 15, 3) := by decide +kernel
theorem dX2_init_21 : decode cX2_init 21 = .ok (.aload_n 0, 1) := by decide +kernel
theorem dX2_init_22 : decode cX2_init 22 = .ok (.new 19, 3) := by decide +kernel
theorem dX2_init_25 : decode cX2_init 25 = .ok (.dup, 1) := by decide +kernel
theorem dX2_init_26 : decode cX2_init 26 = .ok (.invokespecial 21, 3) := by decide +kernel
theorem dX2_init_29 : decode cX2_init 29 = .ok (.putfield 22, 3) := by decide +kernel
theorem dX2_init_32 : decode cX2_init 32 = .ok (.aload_n 0, 1) := by decide +kernel
theorem dX2_init_33 : decode cX2_init 33 = .ok (.new 9, 3) := by decide +kernel
theorem dX2_init_36 : decode cX2_init 36 = .ok (.dup, 1) := by decide +kernel
theorem dX2_init_37 : decode cX2_init 37 = .ok (.invokespecial 26, 3) := by decide +kernel
theorem dX2_init_40 : decode cX2_init 40 = .ok (.putfield 27, 3) := by decide +kernel
theorem dX2_init_43 : decode cX2_init 43 = .ok (.aload_n 0, 1) := by decide +kernel
theorem dX2_init_44 : decode cX2_init 44 = .ok (.new 9, 3) := by decide +kernel
theorem dX2_init_47 : decode cX2_init 47 = .ok (.dup, 1) := by decide +kernel
theorem dX2_init_48 : decode cX2_init 48 = .ok (.invokespecial 26, 3) := by decide +kernel
theorem dX2_init_51 : decode cX2_init 51 = .ok (.putfield 31, 3) := by decide +kernel
theorem dX2_init_54 : decode cX2_init 54 = .ok (.aload_n 0, 1) := by decide +kernel
theorem dX2_init_55 : decode cX2_init 55 = .ok (.new 9, 3) := by decide +kernel
theorem dX2_init_58 : decode cX2_init 58 = .ok (.dup, 1) := by decide +kernel
theorem dX2_init_59 : decode cX2_init 59 = .ok (.invokespecial 26, 3) := by decide +kernel
theorem dX2_init_62 : decode cX2_init 62 = .ok (.putfield 34, 3) := by decide +kernel
theorem dX2_init_65 : decode cX2_init 65 = .ok (.aload_n 0, 1) := by decide +kernel
theorem dX2_init_66 : decode cX2_init 66 = .ok (.new 9, 3) := by decide +kernel
theorem dX2_init_69 : decode cX2_init 69 = .ok (.dup, 1) := by decide +kernel
theorem dX2_init_70 : decode cX2_init 70 = .ok (.invokespecial 26, 3) := by decide +kernel
theorem dX2_init_73 : decode cX2_init 73 = .ok (.putfield 37, 3) := by decide +kernel
theorem dX2_init_76 : decode cX2_init 76 = .ok (.iconst 0, 1) := by decide +kernel
theorem dX2_init_77 : decode cX2_init 77 = .ok (.istore_n 1, 1) := by decide +kernel
theorem dX2_init_78 : decode cX2_init 78 = .ok (.iload_n 1, 1) := by decide +kernel
theorem dX2_init_79 : decode cX2_init 79 = .ok (.aload_n 0, 1) := by decide +kernel
theorem dX2_init_80 : decode cX2_init 80 = .ok (.getfield 11, 3) := by decide +kernel
theorem dX2_init_83 : decode cX2_init 83 = .ok (.arraylength, 1) := by decide +kernel
theorem dX2_init_84 : decode cX2_init 84 = .ok (.if_icmp .ge 22, 3) := by decide +kernel
theorem dX2_init_87 : decode cX2_init 87 = .ok (.aload_n 0, 1) := by decide +kernel
theorem dX2_init_88 : decode cX2_init 88 = .ok (.getfield 11, 3) := by decide +kernel
theorem dX2_init_91 : decode cX2_init 91 = .ok (.iload_n 1, 1) := by decide +kernel
theorem dX2_init_92 : decode cX2_init 92 = .ok (.new 9, 3) := by decide +kernel
theorem dX2_init_95 : decode cX2_init 95 = .ok (.dup, 1) := by decide +kernel
theorem dX2_init_96 : decode cX2_init 96 = .ok (.invokespecial 26, 3) := by decide +kernel
theorem dX2_init_99 : decode cX2_init 99 = .ok (.aastore, 1) := by decide +kernel
theorem dX2_init_100 : decode cX2_init 100 = .ok (.iinc 1 1, 3) := by decide +kernel
theorem dX2_init_103 : decode cX2_init 103 = .ok (.goto (-25), 3) := by decide +kernel
theorem dX2_init_106 : decode cX2_init 106 = .ok (.return_, 1) := by decide +kernel
set_option maxRecDepth 20000 in
theorem ggX2_setCoefficient_X2_find : GoodIn wsX2_setCoefficient wsX2_find := goodIn_r _ [8, 9, 28, 29, 30, 31, 32, 33, 34] (by decide +kernel) (by decide +kernel)
set_option maxRecDepth 20000 in
theorem gX2_setCoefficient_X2_find : GoodIn wsX2_setCoefficient (wsV RX2 40 RX2 yX2_find wsX2_find) := goodIn_app (goodIn_of _ (by decide +kernel)) ggX2_setCoefficient_X2_find
set_option maxRecDepth 20000 in
theorem ggX2_setCoefficient_X2_isOutside : GoodIn wsX2_setCoefficient wsX2_isOutside := goodIn_r _ [12] (by decide +kernel) (by decide +kernel)
set_option maxRecDepth 20000 in
theorem gX2_setCoefficient_X2_isOutside : GoodIn wsX2_setCoefficient (va_wsS RX2 44 yX2_isOutside wsX2_isOutside) := goodIn_app (goodIn_of _ (by decide +kernel)) ggX2_setCoefficient_X2_isOutside
set_option maxRecDepth 20000 in
theorem ggX2_setCoefficient_X1_put : GoodIn wsX2_setCoefficient wsX1_put := goodIn_r _ [17, 18, 35, 36] (by decide +kernel) (by decide +kernel)
set_option maxRecDepth 20000 in
theorem gX2_setCoefficient_X1_put : GoodIn wsX2_setCoefficient (wsV RX2 52 RX1 yX1_put wsX1_put) := goodIn_app (goodIn_of _ (by decide +kernel)) ggX2_setCoefficient_X1_put
set_option maxRecDepth 20000 in
theorem ggX2_setCoefficient_X1_trim : GoodIn wsX2_setCoefficient wsX1_trim := goodIn_r _ [22, 23, 18, 35, 36] (by decide +kernel) (by decide +kernel)
set_option maxRecDepth 20000 in
theorem gX2_setCoefficient_X1_trim : GoodIn wsX2_setCoefficient (wsV RX2 56 RX1 yX1_trim wsX1_trim) := goodIn_app (goodIn_of _ (by decide +kernel)) ggX2_setCoefficient_X1_trim
set_option maxRecDepth 20000 in
theorem ggX2_setCoefficient_X1_top : GoodIn wsX2_setCoefficient wsX1_top := goodIn_r _ [27, 23, 35, 36] (by decide +kernel) (by decide +kernel)
set_option maxRecDepth 20000 in
theorem gX2_setCoefficient_X1_top : GoodIn wsX2_setCoefficient (wsV RX2 59 RX1 yX1_top wsX1_top) := goodIn_app (goodIn_of _ (by decide +kernel)) ggX2_setCoefficient_X1_top
theorem dX2_setCoefficient_0 : decode cX2_setCoefficient 0 = .ok (.aload_n 0, 1) := by decide +kernel
theorem dX2_setCoefficient_1 : decode cX2_setCoefficient 1 = .ok (.iload_n 1, 1) := by decide +kernel
theorem dX2_setCoefficient_2 : decode cX2_setCoefficient 2 = .ok (.invokevirtual 40, 3) := by decide +kernel
theorem dX2_setCoefficient_5 : decode cX2_setCoefficient 5 = .ok (.astore 4, 2) := by decide +kernel
theorem dX2_setCoefficient_7 : decode cX2_setCoefficient 7 = .ok (.aload 4, 2) := by decide +kernel
theorem dX2_setCoefficient_9 : decode cX2_setCoefficient 9 = .ok (.ifnull 24, 3) := by decide +kernel
theorem dX2_setCoefficient_12 : decode cX2_setCoefficient 12 = .ok (.iload_n 2, 1) := by decide +kernel
theorem dX2_setCoefficient_13 : decode cX2_setCoefficient 13 = .ok (.iconst 0, 1) := by decide +kernel
theorem dX2_setCoefficient_14 : decode cX2_setCoefficient 14 = .ok (.bipush 24, 2) := by decide +kernel
theorem dX2_setCoefficient_16 : decode cX2_setCoefficient 16 = .ok (.invokestatic 44, 3) := by decide +kernel
theorem dX2_setCoefficient_19 : decode cX2_setCoefficient 19 = .ok (.ifCond .ne 14, 3) := by decide +kernel
theorem dX2_setCoefficient_22 : decode cX2_setCoefficient 22 = .ok (.iload_n 3, 1) := by decide +kernel
theorem dX2_setCoefficient_23 : decode cX2_setCoefficient 23 = .ok (.ldc 48, 2) := by decide +kernel
theorem dX2_setCoefficient_25 : decode cX2_setCoefficient 25 = .ok (.ldc 49, 2) := by decide +kernel
theorem dX2_setCoefficient_27 : decode cX2_setCoefficient 27 = .ok (.invokestatic 44, 3) := by decide +kernel
theorem dX2_setCoefficient_30 : decode cX2_setCoefficient 30 = .ok (.ifCond .eq 7, 3) := by decide +kernel
theorem dX2_setCoefficient_33 : decode cX2_setCoefficient 33 = .ok (.ldc2_w 50, 3) := by decide +kernel
theorem dX2_setCoefficient_36 : decode cX2_setCoefficient 36 = .ok (.lreturn, 1) := by decide +kernel
theorem dX2_setCoefficient_37 : decode cX2_setCoefficient 37 = .ok (.aload 4, 2) := by decide +kernel
theorem dX2_setCoefficient_39 : decode cX2_setCoefficient 39 = .ok (.iload_n 2, 1) := by decide +kernel
theorem dX2_setCoefficient_40 : decode cX2_setCoefficient 40 = .ok (.iload_n 3, 1) := by decide +kernel
theorem dX2_setCoefficient_41 : decode cX2_setCoefficient 41 = .ok (.i2l, 1) := by decide +kernel
theorem dX2_setCoefficient_42 : decode cX2_setCoefficient 42 = .ok (.invokevirtual 52, 3) := by decide +kernel
theorem dX2_setCoefficient_45 : decode cX2_setCoefficient 45 = .ok (.aload 4, 2) := by decide +kernel
theorem dX2_setCoefficient_47 : decode cX2_setCoefficient 47 = .ok (.invokevirtual 56, 3) := by decide +kernel
theorem dX2_setCoefficient_50 : decode cX2_setCoefficient 50 = .ok (.aload 4, 2) := by decide +kernel
theorem dX2_setCoefficient_52 : decode cX2_setCoefficient 52 = .ok (.invokevirtual 59, 3) := by decide +kernel
theorem dX2_setCoefficient_55 : decode cX2_setCoefficient 55 = .ok (.i2l, 1) := by decide +kernel
theorem dX2_setCoefficient_56 : decode cX2_setCoefficient 56 = .ok (.lreturn, 1) := by decide +kernel
set_option maxRecDepth 20000 in
theorem ggX2_coefficient_X2_find : GoodIn wsX2_coefficient wsX2_find := goodIn_r _ [6, 7, 17, 18, 19, 20, 21, 22, 23] (by decide +kernel) (by decide +kernel)
set_option maxRecDepth 20000 in
theorem gX2_coefficient_X2_find : GoodIn wsX2_coefficient (wsV RX2 40 RX2 yX2_find wsX2_find) := goodIn_app (goodIn_of _ (by decide +kernel)) ggX2_coefficient_X2_find
set_option maxRecDepth 20000 in
theorem ggX2_coefficient_X2_isOutside : GoodIn wsX2_coefficient wsX2_isOutside := goodIn_r _ [10] (by decide +kernel) (by decide +kernel)
set_option maxRecDepth 20000 in
theorem gX2_coefficient_X2_isOutside : GoodIn wsX2_coefficient (va_wsS RX2 44 yX2_isOutside wsX2_isOutside) := goodIn_app (goodIn_of _ (by decide +kernel)) ggX2_coefficient_X2_isOutside
set_option maxRecDepth 20000 in
theorem ggX2_coefficient_X1_at : GoodIn wsX2_coefficient wsX1_at := goodIn_r _ [15, 16, 24, 25] (by decide +kernel) (by decide +kernel)
set_option maxRecDepth 20000 in
theorem gX2_coefficient_X1_at : GoodIn wsX2_coefficient (wsV RX2 63 RX1 yX1_at wsX1_at) := goodIn_app (goodIn_of _ (by decide +kernel)) ggX2_coefficient_X1_at
theorem dX2_coefficient_0 : decode cX2_coefficient 0 = .ok (.aload_n 0, 1) := by decide +kernel
theorem dX2_coefficient_1 : decode cX2_coefficient 1 = .ok (.iload_n 1, 1) := by decide +kernel
theorem dX2_coefficient_2 : decode cX2_coefficient 2 = .ok (.invokevirtual 40, 3) := by decide +kernel
theorem dX2_coefficient_5 : decode cX2_coefficient 5 = .ok (.astore_n 3, 1) := by decide +kernel
theorem dX2_coefficient_6 : decode cX2_coefficient 6 = .ok (.aload_n 3, 1) := by decide +kernel
theorem dX2_coefficient_7 : decode cX2_coefficient 7 = .ok (.ifnull 13, 3) := by decide +kernel
theorem dX2_coefficient_10 : decode cX2_coefficient 10 = .ok (.iload_n 2, 1) := by decide +kernel
theorem dX2_coefficient_11 : decode cX2_coefficient 11 = .ok (.iconst 0, 1) := by decide +kernel
theorem dX2_coefficient_12 : decode cX2_coefficient 12 = .ok (.bipush 24, 2) := by decide +kernel
theorem dX2_coefficient_14 : decode cX2_coefficient 14 = .ok (.invokestatic 44, 3) := by decide +kernel
theorem dX2_coefficient_17 : decode cX2_coefficient 17 = .ok (.ifCond .eq 7, 3) := by decide +kernel
theorem dX2_coefficient_20 : decode cX2_coefficient 20 = .ok (.ldc2_w 50, 3) := by decide +kernel
theorem dX2_coefficient_23 : decode cX2_coefficient 23 = .ok (.lreturn, 1) := by decide +kernel
theorem dX2_coefficient_24 : decode cX2_coefficient 24 = .ok (.aload_n 3, 1) := by decide +kernel
theorem dX2_coefficient_25 : decode cX2_coefficient 25 = .ok (.iload_n 2, 1) := by decide +kernel
theorem dX2_coefficient_26 : decode cX2_coefficient 26 = .ok (.invokevirtual 63, 3) := by decide +kernel
theorem dX2_coefficient_29 : decode cX2_coefficient 29 = .ok (.lreturn, 1) := by decide +kernel
set_option maxRecDepth 20000 in
theorem ggX2_degree_X2_find : GoodIn wsX2_degree wsX2_find := goodIn_r _ [6, 7, 14, 15, 16, 17, 18, 19, 20] (by decide +kernel) (by decide +kernel)
set_option maxRecDepth 20000 in
theorem gX2_degree_X2_find : GoodIn wsX2_degree (wsV RX2 40 RX2 yX2_find wsX2_find) := goodIn_app (goodIn_of _ (by decide +kernel)) ggX2_degree_X2_find
set_option maxRecDepth 20000 in
theorem ggX2_degree_X1_top : GoodIn wsX2_degree wsX1_top := goodIn_r _ [12, 13, 21, 22] (by decide +kernel) (by decide +kernel)
set_option maxRecDepth 20000 in
theorem gX2_degree_X1_top : GoodIn wsX2_degree (wsV RX2 59 RX1 yX1_top wsX1_top) := goodIn_app (goodIn_of _ (by decide +kernel)) ggX2_degree_X1_top
theorem dX2_degree_0 : decode cX2_degree 0 = .ok (.aload_n 0, 1) := by decide +kernel
theorem dX2_degree_1 : decode cX2_degree 1 = .ok (.iload_n 1, 1) := by decide +kernel
theorem dX2_degree_2 : decode cX2_degree 2 = .ok (.invokevirtual 40, 3) := by decide +kernel
theorem dX2_degree_5 : decode cX2_degree 5 = .ok (.astore_n 2, 1) := by decide +kernel
theorem dX2_degree_6 : decode cX2_degree 6 = .ok (.aload_n 2, 1) := by decide +kernel
theorem dX2_degree_7 : decode cX2_degree 7 = .ok (.ifnonnull 9, 3) := by decide +kernel
theorem dX2_degree_10 : decode cX2_degree 10 = .ok (.ldc2_w 50, 3) := by decide +kernel
theorem dX2_degree_13 : decode cX2_degree 13 = .ok (.goto 8, 3) := by decide +kernel
theorem dX2_degree_16 : decode cX2_degree 16 = .ok (.aload_n 2, 1) := by decide +kernel
theorem dX2_degree_17 : decode cX2_degree 17 = .ok (.invokevirtual 59, 3) := by decide +kernel
theorem dX2_degree_20 : decode cX2_degree 20 = .ok (.i2l, 1) := by decide +kernel
theorem dX2_degree_21 : decode cX2_degree 21 = .ok (.lreturn, 1) := by decide +kernel
set_option maxRecDepth 20000 in
theorem ggX2_copy_X2_find : GoodIn wsX2_copy wsX2_find := goodIn_r _ [6, 7, 23, 24, 25, 26, 27, 28, 29] (by decide +kernel) (by decide +kernel)
set_option maxRecDepth 20000 in
theorem gX2_copy_X2_find : GoodIn wsX2_copy (wsV RX2 40 RX2 yX2_find wsX2_find) := goodIn_app (goodIn_of _ (by decide +kernel)) ggX2_copy_X2_find
set_option maxRecDepth 20000 in
theorem ggX2_copy_X1_take : GoodIn wsX2_copy wsX1_take := goodIn_r _ [12, 13, 14, 15, 16, 17, 11, 18, 30, 31] (by decide +kernel) (by decide +kernel)
set_option maxRecDepth 20000 in
theorem gX2_copy_X1_take : GoodIn wsX2_copy (wsV RX2 67 RX1 yX1_take wsX1_take) := goodIn_app (goodIn_of _ (by decide +kernel)) ggX2_copy_X1_take
set_option maxRecDepth 20000 in
theorem ggX2_copy_X1_top : GoodIn wsX2_copy wsX1_top := goodIn_r _ [22, 14, 30, 31] (by decide +kernel) (by decide +kernel)
set_option maxRecDepth 20000 in
theorem gX2_copy_X1_top : GoodIn wsX2_copy (wsV RX2 59 RX1 yX1_top wsX1_top) := goodIn_app (goodIn_of _ (by decide +kernel)) ggX2_copy_X1_top
theorem dX2_copy_0 : decode cX2_copy 0 = .ok (.aload_n 0, 1) := by decide +kernel
theorem dX2_copy_1 : decode cX2_copy 1 = .ok (.iload_n 1, 1) := by decide +kernel
theorem dX2_copy_2 : decode cX2_copy 2 = .ok (.invokevirtual 40, 3) := by decide +kernel
theorem dX2_copy_5 : decode cX2_copy 5 = .ok (.astore_n 3, 1) := by decide +kernel
theorem dX2_copy_6 : decode cX2_copy 6 = .ok (.aload_n 0, 1) := by decide +kernel
theorem dX2_copy_7 : decode cX2_copy 7 = .ok (.iload_n 2, 1) := by decide +kernel
theorem dX2_copy_8 : decode cX2_copy 8 = .ok (.invokevirtual 40, 3) := by decide +kernel
theorem dX2_copy_11 : decode cX2_copy 11 = .ok (.astore 4, 2) := by decide +kernel
theorem dX2_copy_13 : decode cX2_copy 13 = .ok (.aload_n 3, 1) := by decide +kernel
theorem dX2_copy_14 : decode cX2_copy 14 = .ok (.ifnull 8, 3) := by decide +kernel
theorem dX2_copy_17 : decode cX2_copy 17 = .ok (.aload 4, 2) := by decide +kernel
theorem dX2_copy_19 : decode cX2_copy 19 = .ok (.ifnonnull 7, 3) := by decide +kernel
theorem dX2_copy_22 : decode cX2_copy 22 = .ok (.ldc2_w 50, 3) := by decide +kernel
theorem dX2_copy_25 : decode cX2_copy 25 = .ok (.lreturn, 1) := by decide +kernel
theorem dX2_copy_26 : decode cX2_copy 26 = .ok (.aload 4, 2) := by decide +kernel
theorem dX2_copy_28 : decode cX2_copy 28 = .ok (.aload_n 3, 1) := by decide +kernel
theorem dX2_copy_29 : decode cX2_copy 29 = .ok (.invokevirtual 67, 3) := by decide +kernel
theorem dX2_copy_32 : decode cX2_copy 32 = .ok (.aload 4, 2) := by decide +kernel
theorem dX2_copy_34 : decode cX2_copy 34 = .ok (.invokevirtual 59, 3) := by decide +kernel
theorem dX2_copy_37 : decode cX2_copy 37 = .ok (.i2l, 1) := by decide +kernel
theorem dX2_copy_38 : decode cX2_copy 38 = .ok (.lreturn, 1) := by decide +kernel
set_option maxRecDepth 20000 in
theorem ggX2_value_X2_find : GoodIn wsX2_value wsX2_find := goodIn_r _ [8, 9, 33, 34, 35, 36, 37, 38, 39] (by decide +kernel) (by decide +kernel)
set_option maxRecDepth 20000 in
theorem gX2_value_X2_find : GoodIn wsX2_value (wsV RX2 40 RX2 yX2_find wsX2_find) := goodIn_app (goodIn_of _ (by decide +kernel)) ggX2_value_X2_find
set_option maxRecDepth 20000 in
theorem ggX2_value_X2_isOutside : GoodIn wsX2_value wsX2_isOutside := goodIn_r _ [12] (by decide +kernel) (by decide +kernel)
set_option maxRecDepth 20000 in
theorem gX2_value_X2_isOutside : GoodIn wsX2_value (va_wsS RX2 44 yX2_isOutside wsX2_isOutside) := goodIn_app (goodIn_of _ (by decide +kernel)) ggX2_value_X2_isOutside
set_option maxRecDepth 20000 in
theorem ggX2_value_X1_valueAt : GoodIn wsX2_value wsX1_valueAt := goodIn_r _ [17, 18, 19, 20, 21, 22, 23, 16, 24, 25, 26, 7, 27, 28, 29, 30, 31, 32, 40, 41] (by decide +kernel) (by decide +kernel)
set_option maxRecDepth 20000 in
theorem gX2_value_X1_valueAt : GoodIn wsX2_value (wsV RX2 73 RX1 yX1_valueAt wsX1_valueAt) := goodIn_app (goodIn_of _ (by decide +kernel)) ggX2_value_X1_valueAt
theorem dX2_value_0 : decode cX2_value 0 = .ok (.aload_n 0, 1) := by decide +kernel
theorem dX2_value_1 : decode cX2_value 1 = .ok (.iload_n 1, 1) := by decide +kernel
theorem dX2_value_2 : decode cX2_value 2 = .ok (.invokevirtual 40, 3) := by decide +kernel
theorem dX2_value_5 : decode cX2_value 5 = .ok (.astore_n 3, 1) := by decide +kernel
theorem dX2_value_6 : decode cX2_value 6 = .ok (.aload_n 3, 1) := by decide +kernel
theorem dX2_value_7 : decode cX2_value 7 = .ok (.ifnull 14, 3) := by decide +kernel
theorem dX2_value_10 : decode cX2_value 10 = .ok (.iload_n 2, 1) := by decide +kernel
theorem dX2_value_11 : decode cX2_value 11 = .ok (.ldc 71, 2) := by decide +kernel
theorem dX2_value_13 : decode cX2_value 13 = .ok (.ldc 72, 2) := by decide +kernel
theorem dX2_value_15 : decode cX2_value 15 = .ok (.invokestatic 44, 3) := by decide +kernel
theorem dX2_value_18 : decode cX2_value 18 = .ok (.ifCond .eq 7, 3) := by decide +kernel
theorem dX2_value_21 : decode cX2_value 21 = .ok (.ldc2_w 50, 3) := by decide +kernel
theorem dX2_value_24 : decode cX2_value 24 = .ok (.lreturn, 1) := by decide +kernel
theorem dX2_value_25 : decode cX2_value 25 = .ok (.aload_n 3, 1) := by decide +kernel
theorem dX2_value_26 : decode cX2_value 26 = .ok (.iload_n 2, 1) := by decide +kernel
theorem dX2_value_27 : decode cX2_value 27 = .ok (.i2l, 1) := by decide +kernel
theorem dX2_value_28 : decode cX2_value 28 = .ok (.invokevirtual 73, 3) := by decide +kernel
theorem dX2_value_31 : decode cX2_value 31 = .ok (.lreturn, 1) := by decide +kernel
set_option maxRecDepth 20000 in
theorem ggX2_add_X2_find : GoodIn wsX2_add wsX2_find := goodIn_r _ [7, 8, 50, 51, 52, 53, 54, 55, 56] (by decide +kernel) (by decide +kernel)
set_option maxRecDepth 20000 in
theorem gX2_add_X2_find : GoodIn wsX2_add (wsV RX2 40 RX2 yX2_find wsX2_find) := goodIn_app (goodIn_of _ (by decide +kernel)) ggX2_add_X2_find
set_option maxRecDepth 20000 in
theorem ggX2_add_X2_isOutside : GoodIn wsX2_add wsX2_isOutside := goodIn_r _ [11] (by decide +kernel) (by decide +kernel)
set_option maxRecDepth 20000 in
theorem gX2_add_X2_isOutside : GoodIn wsX2_add (va_wsS RX2 44 yX2_isOutside wsX2_isOutside) := goodIn_app (goodIn_of _ (by decide +kernel)) ggX2_add_X2_isOutside
set_option maxRecDepth 20000 in
theorem ggX2_add_X1_becomeSum : GoodIn wsX2_add wsX1_becomeSum := goodIn_r _ [16, 17, 18, 19, 20, 15, 21, 22, 23, 24, 25, 26, 57, 58] (by decide +kernel) (by decide +kernel)
set_option maxRecDepth 20000 in
theorem gX2_add_X1_becomeSum : GoodIn wsX2_add (wsV RX2 77 RX1 yX1_becomeSum wsX1_becomeSum) := goodIn_app (goodIn_of _ (by decide +kernel)) ggX2_add_X1_becomeSum
set_option maxRecDepth 20000 in
theorem ggX2_add_X2_keepMade : GoodIn wsX2_add wsX2_keepMade := goodIn_r _ [30, 2, 31, 32, 33, 15, 34, 26, 35, 17, 36, 37, 38, 39, 40, 41, 42, 43, 44, 45, 18, 19, 20, 21, 46, 47, 48, 49, 50, 51, 52, 53, 54, 55, 56, 57, 58] (by decide +kernel) (by decide +kernel)
set_option maxRecDepth 20000 in
theorem gX2_add_X2_keepMade : GoodIn wsX2_add (wsV RX2 81 RX2 yX2_keepMade wsX2_keepMade) := goodIn_app (goodIn_of _ (by decide +kernel)) ggX2_add_X2_keepMade
theorem dX2_add_0 : decode cX2_add 0 = .ok (.aload_n 0, 1) := by decide +kernel
theorem dX2_add_1 : decode cX2_add 1 = .ok (.iload_n 1, 1) := by decide +kernel
theorem dX2_add_2 : decode cX2_add 2 = .ok (.invokevirtual 40, 3) := by decide +kernel
theorem dX2_add_5 : decode cX2_add 5 = .ok (.astore 6, 2) := by decide +kernel
theorem dX2_add_7 : decode cX2_add 7 = .ok (.aload_n 0, 1) := by decide +kernel
theorem dX2_add_8 : decode cX2_add 8 = .ok (.iload_n 3, 1) := by decide +kernel
theorem dX2_add_9 : decode cX2_add 9 = .ok (.invokevirtual 40, 3) := by decide +kernel
theorem dX2_add_12 : decode cX2_add 12 = .ok (.astore 7, 2) := by decide +kernel
theorem dX2_add_14 : decode cX2_add 14 = .ok (.aload_n 0, 1) := by decide +kernel
theorem dX2_add_15 : decode cX2_add 15 = .ok (.iload 5, 2) := by decide +kernel
theorem dX2_add_17 : decode cX2_add 17 = .ok (.invokevirtual 40, 3) := by decide +kernel
theorem dX2_add_20 : decode cX2_add 20 = .ok (.astore 8, 2) := by decide +kernel
theorem dX2_add_22 : decode cX2_add 22 = .ok (.aload 6, 2) := by decide +kernel
theorem dX2_add_24 : decode cX2_add 24 = .ok (.ifnull 13, 3) := by decide +kernel
theorem dX2_add_27 : decode cX2_add 27 = .ok (.aload 7, 2) := by decide +kernel
theorem dX2_add_29 : decode cX2_add 29 = .ok (.ifnull 8, 3) := by decide +kernel
theorem dX2_add_32 : decode cX2_add 32 = .ok (.aload 8, 2) := by decide +kernel
theorem dX2_add_34 : decode cX2_add 34 = .ok (.ifnonnull 7, 3) := by decide +kernel
theorem dX2_add_37 : decode cX2_add 37 = .ok (.ldc2_w 50, 3) := by decide +kernel
theorem dX2_add_40 : decode cX2_add 40 = .ok (.lreturn, 1) := by decide +kernel
theorem dX2_add_41 : decode cX2_add 41 = .ok (.iload_n 2, 1) := by decide +kernel
theorem dX2_add_42 : decode cX2_add 42 = .ok (.sipush (-1000), 3) := by decide +kernel
theorem dX2_add_45 : decode cX2_add 45 = .ok (.sipush 1000, 3) := by decide +kernel
theorem dX2_add_48 : decode cX2_add 48 = .ok (.invokestatic 44, 3) := by decide +kernel
theorem dX2_add_51 : decode cX2_add 51 = .ok (.ifCond .ne 17, 3) := by decide +kernel
theorem dX2_add_54 : decode cX2_add 54 = .ok (.iload 4, 2) := by decide +kernel
theorem dX2_add_56 : decode cX2_add 56 = .ok (.sipush (-1000), 3) := by decide +kernel
theorem dX2_add_59 : decode cX2_add 59 = .ok (.sipush 1000, 3) := by decide +kernel
theorem dX2_add_62 : decode cX2_add 62 = .ok (.invokestatic 44, 3) := by decide +kernel
theorem dX2_add_65 : decode cX2_add 65 = .ok (.ifCond .eq 7, 3) := by decide +kernel
theorem dX2_add_68 : decode cX2_add 68 = .ok (.ldc2_w 50, 3) := by decide +kernel
theorem dX2_add_71 : decode cX2_add 71 = .ok (.lreturn, 1) := by decide +kernel
theorem dX2_add_72 : decode cX2_add 72 = .ok (.aload_n 0, 1) := by decide +kernel
theorem dX2_add_73 : decode cX2_add 73 = .ok (.getfield 27, 3) := by decide +kernel
theorem dX2_add_76 : decode cX2_add 76 = .ok (.aload 6, 2) := by decide +kernel
theorem dX2_add_78 : decode cX2_add 78 = .ok (.iload_n 2, 1) := by decide +kernel
theorem dX2_add_79 : decode cX2_add 79 = .ok (.aload 7, 2) := by decide +kernel
theorem dX2_add_81 : decode cX2_add 81 = .ok (.iload 4, 2) := by decide +kernel
theorem dX2_add_83 : decode cX2_add 83 = .ok (.invokevirtual 77, 3) := by decide +kernel
theorem dX2_add_86 : decode cX2_add 86 = .ok (.aload_n 0, 1) := by decide +kernel
theorem dX2_add_87 : decode cX2_add 87 = .ok (.aload 8, 2) := by decide +kernel
theorem dX2_add_89 : decode cX2_add 89 = .ok (.invokevirtual 81, 3) := by decide +kernel
theorem dX2_add_92 : decode cX2_add 92 = .ok (.lreturn, 1) := by decide +kernel
set_option maxRecDepth 20000 in
theorem ggX2_multiply_X2_find : GoodIn wsX2_multiply wsX2_find := goodIn_r _ [7, 8, 70, 71, 72, 73, 74, 75, 76] (by decide +kernel) (by decide +kernel)
set_option maxRecDepth 20000 in
theorem gX2_multiply_X2_find : GoodIn wsX2_multiply (wsV RX2 40 RX2 yX2_find wsX2_find) := goodIn_app (goodIn_of _ (by decide +kernel)) ggX2_multiply_X2_find
set_option maxRecDepth 20000 in
theorem ggX2_multiply_X1_becomeProduct : GoodIn wsX2_multiply wsX1_becomeProduct := goodIn_r _ [13, 14, 15, 16, 17, 18, 19, 20, 21, 22, 23, 12, 24, 25, 26, 27, 28, 29, 30, 31, 32, 33, 34, 35, 36, 37, 6, 38, 39, 40, 41, 42, 43, 44, 45, 46, 47, 77, 78] (by decide +kernel) (by decide +kernel)
set_option maxRecDepth 20000 in
theorem gX2_multiply_X1_becomeProduct : GoodIn wsX2_multiply (wsV RX2 85 RX1 yX1_becomeProduct wsX1_becomeProduct) := goodIn_app (goodIn_of _ (by decide +kernel)) ggX2_multiply_X1_becomeProduct
set_option maxRecDepth 20000 in
theorem ggX2_multiply_X2_keepMade : GoodIn wsX2_multiply wsX2_keepMade := goodIn_r _ [51, 2, 52, 53, 54, 12, 55, 14, 56, 19, 57, 58, 17, 59, 60, 61, 62, 63, 64, 65, 29, 30, 31, 32, 66, 67, 68, 69, 70, 71, 72, 73, 74, 75, 76, 77, 78] (by decide +kernel) (by decide +kernel)
set_option maxRecDepth 20000 in
theorem gX2_multiply_X2_keepMade : GoodIn wsX2_multiply (wsV RX2 81 RX2 yX2_keepMade wsX2_keepMade) := goodIn_app (goodIn_of _ (by decide +kernel)) ggX2_multiply_X2_keepMade
theorem dX2_multiply_0 : decode cX2_multiply 0 = .ok (.aload_n 0, 1) := by decide +kernel
theorem dX2_multiply_1 : decode cX2_multiply 1 = .ok (.iload_n 1, 1) := by decide +kernel
theorem dX2_multiply_2 : decode cX2_multiply 2 = .ok (.invokevirtual 40, 3) := by decide +kernel
theorem dX2_multiply_5 : decode cX2_multiply 5 = .ok (.astore 4, 2) := by decide +kernel
theorem dX2_multiply_7 : decode cX2_multiply 7 = .ok (.aload_n 0, 1) := by decide +kernel
theorem dX2_multiply_8 : decode cX2_multiply 8 = .ok (.iload_n 2, 1) := by decide +kernel
theorem dX2_multiply_9 : decode cX2_multiply 9 = .ok (.invokevirtual 40, 3) := by decide +kernel
theorem dX2_multiply_12 : decode cX2_multiply 12 = .ok (.astore 5, 2) := by decide +kernel
theorem dX2_multiply_14 : decode cX2_multiply 14 = .ok (.aload_n 0, 1) := by decide +kernel
theorem dX2_multiply_15 : decode cX2_multiply 15 = .ok (.iload_n 3, 1) := by decide +kernel
theorem dX2_multiply_16 : decode cX2_multiply 16 = .ok (.invokevirtual 40, 3) := by decide +kernel
theorem dX2_multiply_19 : decode cX2_multiply 19 = .ok (.astore 6, 2) := by decide +kernel
theorem dX2_multiply_21 : decode cX2_multiply 21 = .ok (.aload 4, 2) := by decide +kernel
theorem dX2_multiply_23 : decode cX2_multiply 23 = .ok (.ifnull 13, 3) := by decide +kernel
theorem dX2_multiply_26 : decode cX2_multiply 26 = .ok (.aload 5, 2) := by decide +kernel
theorem dX2_multiply_28 : decode cX2_multiply 28 = .ok (.ifnull 8, 3) := by decide +kernel
theorem dX2_multiply_31 : decode cX2_multiply 31 = .ok (.aload 6, 2) := by decide +kernel
theorem dX2_multiply_33 : decode cX2_multiply 33 = .ok (.ifnonnull 7, 3) := by decide +kernel
theorem dX2_multiply_36 : decode cX2_multiply 36 = .ok (.ldc2_w 50, 3) := by decide +kernel
theorem dX2_multiply_39 : decode cX2_multiply 39 = .ok (.lreturn, 1) := by decide +kernel
theorem dX2_multiply_40 : decode cX2_multiply 40 = .ok (.aload_n 0, 1) := by decide +kernel
theorem dX2_multiply_41 : decode cX2_multiply 41 = .ok (.getfield 27, 3) := by decide +kernel
theorem dX2_multiply_44 : decode cX2_multiply 44 = .ok (.aload 4, 2) := by decide +kernel
theorem dX2_multiply_46 : decode cX2_multiply 46 = .ok (.aload 5, 2) := by decide +kernel
theorem dX2_multiply_48 : decode cX2_multiply 48 = .ok (.invokevirtual 85, 3) := by decide +kernel
theorem dX2_multiply_51 : decode cX2_multiply 51 = .ok (.aload_n 0, 1) := by decide +kernel
theorem dX2_multiply_52 : decode cX2_multiply 52 = .ok (.aload 6, 2) := by decide +kernel
theorem dX2_multiply_54 : decode cX2_multiply 54 = .ok (.invokevirtual 81, 3) := by decide +kernel
theorem dX2_multiply_57 : decode cX2_multiply 57 = .ok (.lreturn, 1) := by decide +kernel
set_option maxRecDepth 20000 in
theorem ggX2_differentiate_X2_find : GoodIn wsX2_differentiate wsX2_find := goodIn_r _ [7, 8, 67, 68, 69, 70, 71, 72, 73] (by decide +kernel) (by decide +kernel)
set_option maxRecDepth 20000 in
theorem gX2_differentiate_X2_find : GoodIn wsX2_differentiate (wsV RX2 40 RX2 yX2_find wsX2_find) := goodIn_app (goodIn_of _ (by decide +kernel)) ggX2_differentiate_X2_find
set_option maxRecDepth 20000 in
theorem ggX2_differentiate_X1_becomeDerivative : GoodIn wsX2_differentiate wsX1_becomeDerivative := goodIn_r _ [13, 14, 15, 16, 17, 18, 12, 19, 20, 21, 22, 23, 24, 25, 26, 27, 28, 29, 30, 31, 32, 33, 6, 34, 35, 36, 37, 38, 39, 40, 41, 42, 43, 74, 75] (by decide +kernel) (by decide +kernel)
set_option maxRecDepth 20000 in
theorem gX2_differentiate_X1_becomeDerivative : GoodIn wsX2_differentiate (wsV RX2 89 RX1 yX1_becomeDerivative wsX1_becomeDerivative) := goodIn_app (goodIn_of _ (by decide +kernel)) ggX2_differentiate_X1_becomeDerivative
set_option maxRecDepth 20000 in
theorem ggX2_differentiate_X2_keepMade : GoodIn wsX2_differentiate wsX2_keepMade := goodIn_r _ [47, 2, 48, 49, 50, 12, 51, 14, 52, 20, 53, 54, 55, 56, 57, 58, 59, 60, 61, 62, 25, 26, 27, 28, 63, 64, 65, 66, 67, 68, 69, 70, 71, 72, 73, 74, 75] (by decide +kernel) (by decide +kernel)
set_option maxRecDepth 20000 in
theorem gX2_differentiate_X2_keepMade : GoodIn wsX2_differentiate (wsV RX2 81 RX2 yX2_keepMade wsX2_keepMade) := goodIn_app (goodIn_of _ (by decide +kernel)) ggX2_differentiate_X2_keepMade
theorem dX2_differentiate_0 : decode cX2_differentiate 0 = .ok (.aload_n 0, 1) := by decide +kernel
theorem dX2_differentiate_1 : decode cX2_differentiate 1 = .ok (.iload_n 1, 1) := by decide +kernel
theorem dX2_differentiate_2 : decode cX2_differentiate 2 = .ok (.invokevirtual 40, 3) := by decide +kernel
theorem dX2_differentiate_5 : decode cX2_differentiate 5 = .ok (.astore_n 3, 1) := by decide +kernel
theorem dX2_differentiate_6 : decode cX2_differentiate 6 = .ok (.aload_n 0, 1) := by decide +kernel
theorem dX2_differentiate_7 : decode cX2_differentiate 7 = .ok (.iload_n 2, 1) := by decide +kernel
theorem dX2_differentiate_8 : decode cX2_differentiate 8 = .ok (.invokevirtual 40, 3) := by decide +kernel
theorem dX2_differentiate_11 : decode cX2_differentiate 11 = .ok (.astore 4, 2) := by decide +kernel
theorem dX2_differentiate_13 : decode cX2_differentiate 13 = .ok (.aload_n 3, 1) := by decide +kernel
theorem dX2_differentiate_14 : decode cX2_differentiate 14 = .ok (.ifnull 8, 3) := by decide +kernel
theorem dX2_differentiate_17 : decode cX2_differentiate 17 = .ok (.aload 4, 2) := by decide +kernel
theorem dX2_differentiate_19 : decode cX2_differentiate 19 = .ok (.ifnonnull 7, 3) := by decide +kernel
theorem dX2_differentiate_22 : decode cX2_differentiate 22 = .ok (.ldc2_w 50, 3) := by decide +kernel
theorem dX2_differentiate_25 : decode cX2_differentiate 25 = .ok (.lreturn, 1) := by decide +kernel
theorem dX2_differentiate_26 : decode cX2_differentiate 26 = .ok (.aload_n 0, 1) := by decide +kernel
theorem dX2_differentiate_27 : decode cX2_differentiate 27 = .ok (.getfield 27, 3) := by decide +kernel
theorem dX2_differentiate_30 : decode cX2_differentiate 30 = .ok (.aload_n 3, 1) := by decide +kernel
theorem dX2_differentiate_31 : decode cX2_differentiate 31 = .ok (.invokevirtual 89, 3) := by decide +kernel
theorem dX2_differentiate_34 : decode cX2_differentiate 34 = .ok (.aload_n 0, 1) := by decide +kernel
theorem dX2_differentiate_35 : decode cX2_differentiate 35 = .ok (.aload 4, 2) := by decide +kernel
theorem dX2_differentiate_37 : decode cX2_differentiate 37 = .ok (.invokevirtual 81, 3) := by decide +kernel
theorem dX2_differentiate_40 : decode cX2_differentiate 40 = .ok (.lreturn, 1) := by decide +kernel
set_option maxRecDepth 20000 in
theorem ggX2_antidifferentiate_X2_find : GoodIn wsX2_antidifferentiate wsX2_find := goodIn_r _ [7, 8, 67, 68, 69, 70, 71, 72, 73] (by decide +kernel) (by decide +kernel)
set_option maxRecDepth 20000 in
theorem gX2_antidifferentiate_X2_find : GoodIn wsX2_antidifferentiate (wsV RX2 40 RX2 yX2_find wsX2_find) := goodIn_app (goodIn_of _ (by decide +kernel)) ggX2_antidifferentiate_X2_find
set_option maxRecDepth 20000 in
theorem ggX2_antidifferentiate_X1_becomeAntiderivative : GoodIn wsX2_antidifferentiate wsX1_becomeAntiderivative := goodIn_r _ [13, 14, 15, 16, 17, 18, 12, 19, 20, 21, 22, 23, 24, 25, 26, 27, 28, 29, 6, 30, 31, 32, 33, 34, 35, 36, 37, 38, 39, 40, 41, 42, 43, 74, 75] (by decide +kernel) (by decide +kernel)
set_option maxRecDepth 20000 in
theorem gX2_antidifferentiate_X1_becomeAntiderivative : GoodIn wsX2_antidifferentiate (wsV RX2 92 RX1 yX1_becomeAntiderivative wsX1_becomeAntiderivative) := goodIn_app (goodIn_of _ (by decide +kernel)) ggX2_antidifferentiate_X1_becomeAntiderivative
set_option maxRecDepth 20000 in
theorem ggX2_antidifferentiate_X2_keepMade : GoodIn wsX2_antidifferentiate wsX2_keepMade := goodIn_r _ [47, 2, 48, 49, 50, 12, 51, 14, 52, 20, 53, 54, 55, 56, 57, 58, 59, 60, 61, 62, 25, 26, 27, 28, 63, 64, 65, 66, 67, 68, 69, 70, 71, 72, 73, 74, 75] (by decide +kernel) (by decide +kernel)
set_option maxRecDepth 20000 in
theorem gX2_antidifferentiate_X2_keepMade : GoodIn wsX2_antidifferentiate (wsV RX2 81 RX2 yX2_keepMade wsX2_keepMade) := goodIn_app (goodIn_of _ (by decide +kernel)) ggX2_antidifferentiate_X2_keepMade
theorem dX2_antidifferentiate_0 : decode cX2_antidifferentiate 0 = .ok (.aload_n 0, 1) := by decide +kernel
theorem dX2_antidifferentiate_1 : decode cX2_antidifferentiate 1 = .ok (.iload_n 1, 1) := by decide +kernel
theorem dX2_antidifferentiate_2 : decode cX2_antidifferentiate 2 = .ok (.invokevirtual 40, 3) := by decide +kernel
theorem dX2_antidifferentiate_5 : decode cX2_antidifferentiate 5 = .ok (.astore_n 3, 1) := by decide +kernel
theorem dX2_antidifferentiate_6 : decode cX2_antidifferentiate 6 = .ok (.aload_n 0, 1) := by decide +kernel
theorem dX2_antidifferentiate_7 : decode cX2_antidifferentiate 7 = .ok (.iload_n 2, 1) := by decide +kernel
theorem dX2_antidifferentiate_8 : decode cX2_antidifferentiate 8 = .ok (.invokevirtual 40, 3) := by decide +kernel
theorem dX2_antidifferentiate_11 : decode cX2_antidifferentiate 11 = .ok (.astore 4, 2) := by decide +kernel
theorem dX2_antidifferentiate_13 : decode cX2_antidifferentiate 13 = .ok (.aload_n 3, 1) := by decide +kernel
theorem dX2_antidifferentiate_14 : decode cX2_antidifferentiate 14 = .ok (.ifnull 8, 3) := by decide +kernel
theorem dX2_antidifferentiate_17 : decode cX2_antidifferentiate 17 = .ok (.aload 4, 2) := by decide +kernel
theorem dX2_antidifferentiate_19 : decode cX2_antidifferentiate 19 = .ok (.ifnonnull 7, 3) := by decide +kernel
theorem dX2_antidifferentiate_22 : decode cX2_antidifferentiate 22 = .ok (.ldc2_w 50, 3) := by decide +kernel
theorem dX2_antidifferentiate_25 : decode cX2_antidifferentiate 25 = .ok (.lreturn, 1) := by decide +kernel
theorem dX2_antidifferentiate_26 : decode cX2_antidifferentiate 26 = .ok (.aload_n 0, 1) := by decide +kernel
theorem dX2_antidifferentiate_27 : decode cX2_antidifferentiate 27 = .ok (.getfield 27, 3) := by decide +kernel
theorem dX2_antidifferentiate_30 : decode cX2_antidifferentiate 30 = .ok (.aload_n 3, 1) := by decide +kernel
theorem dX2_antidifferentiate_31 : decode cX2_antidifferentiate 31 = .ok (.invokevirtual 92, 3) := by decide +kernel
theorem dX2_antidifferentiate_34 : decode cX2_antidifferentiate 34 = .ok (.aload_n 0, 1) := by decide +kernel
theorem dX2_antidifferentiate_35 : decode cX2_antidifferentiate 35 = .ok (.aload 4, 2) := by decide +kernel
theorem dX2_antidifferentiate_37 : decode cX2_antidifferentiate 37 = .ok (.invokevirtual 81, 3) := by decide +kernel
theorem dX2_antidifferentiate_40 : decode cX2_antidifferentiate 40 = .ok (.lreturn, 1) := by decide +kernel
set_option maxRecDepth 20000 in
theorem ggX2_compose_X2_find : GoodIn wsX2_compose wsX2_find := goodIn_r _ [6, 7, 89, 90, 91, 92, 93, 94, 95] (by decide +kernel) (by decide +kernel)
set_option maxRecDepth 20000 in
theorem gX2_compose_X2_find : GoodIn wsX2_compose (wsV RX2 40 RX2 yX2_find wsX2_find) := goodIn_app (goodIn_of _ (by decide +kernel)) ggX2_compose_X2_find
set_option maxRecDepth 20000 in
theorem ggX2_compose_X2_makeComposition : GoodIn wsX2_compose wsX2_makeComposition := goodIn_r _ [11, 12, 13, 14, 15, 16, 17, 18, 19, 20, 21, 22, 23, 24, 25, 26, 27, 28, 29, 30, 31, 32, 33, 34, 35, 36, 5, 37, 38, 39, 40, 41, 42, 43, 44, 45, 46, 47, 48, 49, 50, 51, 52, 53, 54, 55, 56, 57, 58, 59, 60, 61, 62, 63, 64, 65, 66, 67, 68, 69, 70, 71, 72, 73, 74, 75, 76, 77, 78, 79, 80, 81, 82, 83, 84, 89, 90, 91, 92, 93, 94, 95, 96, 97] (by decide +kernel) (by decide +kernel)
set_option maxRecDepth 20000 in
theorem gX2_compose_X2_makeComposition : GoodIn wsX2_compose (wsV RX2 95 RX2 yX2_makeComposition wsX2_makeComposition) := goodIn_app (goodIn_of _ (by decide +kernel)) ggX2_compose_X2_makeComposition
set_option maxRecDepth 20000 in
theorem ggX2_compose_X2_keepMade : GoodIn wsX2_compose wsX2_keepMade := goodIn_r _ [88, 14, 65, 66, 67, 18, 68, 21, 69, 20, 70, 71, 45, 72, 73, 74, 81, 82, 83, 84, 49, 31, 32, 33, 26, 27, 28, 29, 89, 90, 91, 92, 93, 94, 95, 96, 97] (by decide +kernel) (by decide +kernel)
set_option maxRecDepth 20000 in
theorem gX2_compose_X2_keepMade : GoodIn wsX2_compose (wsV RX2 81 RX2 yX2_keepMade wsX2_keepMade) := goodIn_app (goodIn_of _ (by decide +kernel)) ggX2_compose_X2_keepMade
theorem dX2_compose_0 : decode cX2_compose 0 = .ok (.aload_n 0, 1) := by decide +kernel
theorem dX2_compose_1 : decode cX2_compose 1 = .ok (.iload_n 1, 1) := by decide +kernel
theorem dX2_compose_2 : decode cX2_compose 2 = .ok (.invokevirtual 40, 3) := by decide +kernel
theorem dX2_compose_5 : decode cX2_compose 5 = .ok (.astore 4, 2) := by decide +kernel
theorem dX2_compose_7 : decode cX2_compose 7 = .ok (.aload_n 0, 1) := by decide +kernel
theorem dX2_compose_8 : decode cX2_compose 8 = .ok (.iload_n 2, 1) := by decide +kernel
theorem dX2_compose_9 : decode cX2_compose 9 = .ok (.invokevirtual 40, 3) := by decide +kernel
theorem dX2_compose_12 : decode cX2_compose 12 = .ok (.astore 5, 2) := by decide +kernel
theorem dX2_compose_14 : decode cX2_compose 14 = .ok (.aload_n 0, 1) := by decide +kernel
theorem dX2_compose_15 : decode cX2_compose 15 = .ok (.iload_n 3, 1) := by decide +kernel
theorem dX2_compose_16 : decode cX2_compose 16 = .ok (.invokevirtual 40, 3) := by decide +kernel
theorem dX2_compose_19 : decode cX2_compose 19 = .ok (.astore 6, 2) := by decide +kernel
theorem dX2_compose_21 : decode cX2_compose 21 = .ok (.aload 4, 2) := by decide +kernel
theorem dX2_compose_23 : decode cX2_compose 23 = .ok (.ifnull 13, 3) := by decide +kernel
theorem dX2_compose_26 : decode cX2_compose 26 = .ok (.aload 5, 2) := by decide +kernel
