theorem dX3_derives_21 : decode cX3_derives 21 = .ok (.bipush 8, 2) := by decide +kernel
theorem dX3_derives_23 : decode cX3_derives 23 = .ok (.iload_n 3, 1) := by decide +kernel
theorem dX3_derives_24 : decode cX3_derives 24 = .ok (.iconst 1, 1) := by decide +kernel
theorem dX3_derives_25 : decode cX3_derives 25 = .ok (.isub, 1) := by decide +kernel
theorem dX3_derives_26 : decode cX3_derives 26 = .ok (.aload_n 0, 1) := by decide +kernel
theorem dX3_derives_27 : decode cX3_derives 27 = .ok (.bipush 8, 2) := by decide +kernel
theorem dX3_derives_29 : decode cX3_derives 29 = .ok (.iload_n 3, 1) := by decide +kernel
theorem dX3_derives_30 : decode cX3_derives 30 = .ok (.iconst 1, 1) := by decide +kernel
theorem dX3_derives_31 : decode cX3_derives 31 = .ok (.iadd, 1) := by decide +kernel
theorem dX3_derives_32 : decode cX3_derives 32 = .ok (.invokevirtual 53, 3) := by decide +kernel
theorem dX3_derives_35 : decode cX3_derives 35 = .ok (.ldc2_w 47, 3) := by decide +kernel
theorem dX3_derives_38 : decode cX3_derives 38 = .ok (.iload_n 3, 1) := by decide +kernel
theorem dX3_derives_39 : decode cX3_derives 39 = .ok (.i2l, 1) := by decide +kernel
theorem dX3_derives_40 : decode cX3_derives 40 = .ok (.lmul, 1) := by decide +kernel
theorem dX3_derives_41 : decode cX3_derives 41 = .ok (.aload_n 0, 1) := by decide +kernel
theorem dX3_derives_42 : decode cX3_derives 42 = .ok (.iload_n 1, 1) := by decide +kernel
theorem dX3_derives_43 : decode cX3_derives 43 = .ok (.iload_n 3, 1) := by decide +kernel
theorem dX3_derives_44 : decode cX3_derives 44 = .ok (.invokevirtual 53, 3) := by decide +kernel
theorem dX3_derives_47 : decode cX3_derives 47 = .ok (.lmul, 1) := by decide +kernel
theorem dX3_derives_48 : decode cX3_derives 48 = .ok (.ladd, 1) := by decide +kernel
theorem dX3_derives_49 : decode cX3_derives 49 = .ok (.invokevirtual 49, 3) := by decide +kernel
theorem dX3_derives_52 : decode cX3_derives 52 = .ok (.iinc 3 (-1), 3) := by decide +kernel
theorem dX3_derives_55 : decode cX3_derives 55 = .ok (.goto (-39), 3) := by decide +kernel
theorem dX3_derives_58 : decode cX3_derives 58 = .ok (.aload_n 0, 1) := by decide +kernel
theorem dX3_derives_59 : decode cX3_derives 59 = .ok (.bipush 8, 2) := by decide +kernel
theorem dX3_derives_61 : decode cX3_derives 61 = .ok (.iconst 0, 1) := by decide +kernel
theorem dX3_derives_62 : decode cX3_derives 62 = .ok (.aload_n 0, 1) := by decide +kernel
theorem dX3_derives_63 : decode cX3_derives 63 = .ok (.bipush 8, 2) := by decide +kernel
theorem dX3_derives_65 : decode cX3_derives 65 = .ok (.iconst 0, 1) := by decide +kernel
theorem dX3_derives_66 : decode cX3_derives 66 = .ok (.invokevirtual 53, 3) := by decide +kernel
theorem dX3_derives_69 : decode cX3_derives 69 = .ok (.ldc2_w 47, 3) := by decide +kernel
theorem dX3_derives_72 : decode cX3_derives 72 = .ok (.invokestatic 88, 3) := by decide +kernel
theorem dX3_derives_75 : decode cX3_derives 75 = .ok (.invokevirtual 49, 3) := by decide +kernel
theorem dX3_derives_78 : decode cX3_derives 78 = .ok (.return_, 1) := by decide +kernel
set_option maxRecDepth 20000 in
theorem ggX3_differentiate_X3_isSeries : GoodIn wsX3_differentiate wsX3_isSeries := goodIn_r _ [5, 6, 7, 8, 4, 9] (by decide +kernel) (by decide +kernel)
set_option maxRecDepth 20000 in
theorem gX3_differentiate_X3_isSeries : GoodIn wsX3_differentiate (va_wsS RX3 75 yX3_isSeries wsX3_isSeries) := goodIn_app (goodIn_of _ (by decide +kernel)) ggX3_differentiate_X3_isSeries
set_option maxRecDepth 20000 in
theorem ggX3_differentiate_X3_derives : GoodIn wsX3_differentiate wsX3_derives := goodIn_r _ [13, 14, 15, 16, 17, 18, 4, 19, 20, 21, 22, 23, 24, 25, 26, 27, 28, 29, 30, 31, 50, 51, 52, 53, 54, 55, 56, 57] (by decide +kernel) (by decide +kernel)
set_option maxRecDepth 20000 in
theorem gX3_differentiate_X3_derives : GoodIn wsX3_differentiate (wsV RX3 111 RX3 yX3_derives wsX3_derives) := goodIn_app (goodIn_of _ (by decide +kernel)) ggX3_differentiate_X3_derives
set_option maxRecDepth 20000 in
theorem ggX3_differentiate_X3_gives : GoodIn wsX3_differentiate wsX3_gives := goodIn_r _ [35, 14, 36, 37, 38, 4, 39, 40, 41, 42, 25, 26, 27, 28, 24, 43, 44, 45, 46, 47, 48, 49, 20, 21, 22, 23, 50, 51, 52, 53, 54, 55, 56, 57] (by decide +kernel) (by decide +kernel)
set_option maxRecDepth 20000 in
theorem gX3_differentiate_X3_gives : GoodIn wsX3_differentiate (wsV RX3 85 RX3 yX3_gives wsX3_gives) := goodIn_app (goodIn_of _ (by decide +kernel)) ggX3_differentiate_X3_gives
theorem dX3_differentiate_0 : decode cX3_differentiate 0 = .ok (.iload_n 1, 1) := by decide +kernel
theorem dX3_differentiate_1 : decode cX3_differentiate 1 = .ok (.invokestatic 75, 3) := by decide +kernel
theorem dX3_differentiate_4 : decode cX3_differentiate 4 = .ok (.ifCond .eq 10, 3) := by decide +kernel
theorem dX3_differentiate_7 : decode cX3_differentiate 7 = .ok (.iload_n 2, 1) := by decide +kernel
theorem dX3_differentiate_8 : decode cX3_differentiate 8 = .ok (.invokestatic 75, 3) := by decide +kernel
theorem dX3_differentiate_11 : decode cX3_differentiate 11 = .ok (.ifCond .ne 7, 3) := by decide +kernel
theorem dX3_differentiate_14 : decode cX3_differentiate 14 = .ok (.ldc2_w 83, 3) := by decide +kernel
theorem dX3_differentiate_17 : decode cX3_differentiate 17 = .ok (.lreturn, 1) := by decide +kernel
theorem dX3_differentiate_18 : decode cX3_differentiate 18 = .ok (.aload_n 0, 1) := by decide +kernel
theorem dX3_differentiate_19 : decode cX3_differentiate 19 = .ok (.iload_n 1, 1) := by decide +kernel
theorem dX3_differentiate_20 : decode cX3_differentiate 20 = .ok (.invokevirtual 111, 3) := by decide +kernel
theorem dX3_differentiate_23 : decode cX3_differentiate 23 = .ok (.aload_n 0, 1) := by decide +kernel
theorem dX3_differentiate_24 : decode cX3_differentiate 24 = .ok (.iload_n 2, 1) := by decide +kernel
theorem dX3_differentiate_25 : decode cX3_differentiate 25 = .ok (.invokevirtual 85, 3) := by decide +kernel
theorem dX3_differentiate_28 : decode cX3_differentiate 28 = .ok (.lreturn, 1) := by decide +kernel
set_option maxRecDepth 20000 in
theorem ggX3_antidifferentiate_X3_isSeries : GoodIn wsX3_antidifferentiate wsX3_isSeries := goodIn_r _ [7, 8, 9, 10, 6, 11] (by decide +kernel) (by decide +kernel)
set_option maxRecDepth 20000 in
theorem gX3_antidifferentiate_X3_isSeries : GoodIn wsX3_antidifferentiate (va_wsS RX3 75 yX3_isSeries wsX3_isSeries) := goodIn_app (goodIn_of _ (by decide +kernel)) ggX3_antidifferentiate_X3_isSeries
set_option maxRecDepth 20000 in
theorem ggX3_antidifferentiate_X3_clears : GoodIn wsX3_antidifferentiate wsX3_clears := goodIn_r _ [15, 2, 16, 17, 18, 6, 19, 20, 46, 47, 48, 49, 50, 51, 52, 53] (by decide +kernel) (by decide +kernel)
set_option maxRecDepth 20000 in
theorem gX3_antidifferentiate_X3_clears : GoodIn wsX3_antidifferentiate (wsV RX3 103 RX3 yX3_clears wsX3_clears) := goodIn_app (goodIn_of _ (by decide +kernel)) ggX3_antidifferentiate_X3_clears
set_option maxRecDepth 20000 in
theorem ggX3_antidifferentiate_X3_of : GoodIn wsX3_antidifferentiate wsX3_of := goodIn_r _ [24, 20, 46, 47, 48, 49, 50, 51, 52, 53] (by decide +kernel) (by decide +kernel)
set_option maxRecDepth 20000 in
theorem gX3_antidifferentiate_X3_of : GoodIn wsX3_antidifferentiate (wsV RX3 53 RX3 yX3_of wsX3_of) := goodIn_app (goodIn_of _ (by decide +kernel)) ggX3_antidifferentiate_X3_of
set_option maxRecDepth 20000 in
theorem ggX3_antidifferentiate_X3_rounded : GoodIn wsX3_antidifferentiate wsX3_rounded := goodIn_r _ [27, 3] (by decide +kernel) (by decide +kernel)
set_option maxRecDepth 20000 in
theorem gX3_antidifferentiate_X3_rounded : GoodIn wsX3_antidifferentiate (va_wsS RX3 88 yX3_rounded wsX3_rounded) := goodIn_app (goodIn_of _ (by decide +kernel)) ggX3_antidifferentiate_X3_rounded
set_option maxRecDepth 20000 in
theorem ggX3_antidifferentiate_X3_sets : GoodIn wsX3_antidifferentiate wsX3_sets := goodIn_r _ [19, 20, 46, 47, 48, 49, 50, 51, 52, 53] (by decide +kernel) (by decide +kernel)
set_option maxRecDepth 20000 in
theorem gX3_antidifferentiate_X3_sets : GoodIn wsX3_antidifferentiate (wsV RX3 49 RX3 yX3_sets wsX3_sets) := goodIn_app (goodIn_of _ (by decide +kernel)) ggX3_antidifferentiate_X3_sets
set_option maxRecDepth 20000 in
theorem ggX3_antidifferentiate_X3_gives : GoodIn wsX3_antidifferentiate wsX3_gives := goodIn_r _ [31, 2, 32, 33, 34, 6, 35, 36, 37, 38, 21, 22, 23, 24, 20, 39, 40, 41, 42, 43, 44, 45, 16, 17, 18, 19, 46, 47, 48, 49, 50, 51, 52, 53] (by decide +kernel) (by decide +kernel)
set_option maxRecDepth 20000 in
theorem gX3_antidifferentiate_X3_gives : GoodIn wsX3_antidifferentiate (wsV RX3 85 RX3 yX3_gives wsX3_gives) := goodIn_app (goodIn_of _ (by decide +kernel)) ggX3_antidifferentiate_X3_gives
theorem dX3_antidifferentiate_0 : decode cX3_antidifferentiate 0 = .ok (.iload_n 1, 1) := by decide +kernel
theorem dX3_antidifferentiate_1 : decode cX3_antidifferentiate 1 = .ok (.invokestatic 75, 3) := by decide +kernel
theorem dX3_antidifferentiate_4 : decode cX3_antidifferentiate 4 = .ok (.ifCond .eq 10, 3) := by decide +kernel
theorem dX3_antidifferentiate_7 : decode cX3_antidifferentiate 7 = .ok (.iload_n 2, 1) := by decide +kernel
theorem dX3_antidifferentiate_8 : decode cX3_antidifferentiate 8 = .ok (.invokestatic 75, 3) := by decide +kernel
theorem dX3_antidifferentiate_11 : decode cX3_antidifferentiate 11 = .ok (.ifCond .ne 7, 3) := by decide +kernel
theorem dX3_antidifferentiate_14 : decode cX3_antidifferentiate 14 = .ok (.ldc2_w 83, 3) := by decide +kernel
theorem dX3_antidifferentiate_17 : decode cX3_antidifferentiate 17 = .ok (.lreturn, 1) := by decide +kernel
theorem dX3_antidifferentiate_18 : decode cX3_antidifferentiate 18 = .ok (.aload_n 0, 1) := by decide +kernel
theorem dX3_antidifferentiate_19 : decode cX3_antidifferentiate 19 = .ok (.getfield 13, 3) := by decide +kernel
theorem dX3_antidifferentiate_22 : decode cX3_antidifferentiate 22 = .ok (.iload_n 1, 1) := by decide +kernel
theorem dX3_antidifferentiate_23 : decode cX3_antidifferentiate 23 = .ok (.iaload, 1) := by decide +kernel
theorem dX3_antidifferentiate_24 : decode cX3_antidifferentiate 24 = .ok (.iconst 1, 1) := by decide +kernel
theorem dX3_antidifferentiate_25 : decode cX3_antidifferentiate 25 = .ok (.iadd, 1) := by decide +kernel
theorem dX3_antidifferentiate_26 : decode cX3_antidifferentiate 26 = .ok (.istore_n 3, 1) := by decide +kernel
theorem dX3_antidifferentiate_27 : decode cX3_antidifferentiate 27 = .ok (.aload_n 0, 1) := by decide +kernel
theorem dX3_antidifferentiate_28 : decode cX3_antidifferentiate 28 = .ok (.bipush 8, 2) := by decide +kernel
theorem dX3_antidifferentiate_30 : decode cX3_antidifferentiate 30 = .ok (.iload_n 3, 1) := by decide +kernel
theorem dX3_antidifferentiate_31 : decode cX3_antidifferentiate 31 = .ok (.invokevirtual 103, 3) := by decide +kernel
theorem dX3_antidifferentiate_34 : decode cX3_antidifferentiate 34 = .ok (.lconst 0, 1) := by decide +kernel
theorem dX3_antidifferentiate_35 : decode cX3_antidifferentiate 35 = .ok (.lstore 4, 2) := by decide +kernel
theorem dX3_antidifferentiate_37 : decode cX3_antidifferentiate 37 = .ok (.iconst 1, 1) := by decide +kernel
theorem dX3_antidifferentiate_38 : decode cX3_antidifferentiate 38 = .ok (.istore 6, 2) := by decide +kernel
theorem dX3_antidifferentiate_40 : decode cX3_antidifferentiate 40 = .ok (.iload 6, 2) := by decide +kernel
theorem dX3_antidifferentiate_42 : decode cX3_antidifferentiate 42 = .ok (.iload_n 3, 1) := by decide +kernel
theorem dX3_antidifferentiate_43 : decode cX3_antidifferentiate 43 = .ok (.if_icmp .gt 84, 3) := by decide +kernel
theorem dX3_antidifferentiate_46 : decode cX3_antidifferentiate 46 = .ok (.iload 6, 2) := by decide +kernel
theorem dX3_antidifferentiate_48 : decode cX3_antidifferentiate 48 = .ok (.iconst 1, 1) := by decide +kernel
theorem dX3_antidifferentiate_49 : decode cX3_antidifferentiate 49 = .ok (.if_icmp .ne 9, 3) := by decide +kernel
theorem dX3_antidifferentiate_52 : decode cX3_antidifferentiate 52 = .ok (.ldc2_w 47, 3) := by decide +kernel
theorem dX3_antidifferentiate_55 : decode cX3_antidifferentiate 55 = .ok (.goto 4, 3) := by decide +kernel
theorem dX3_antidifferentiate_58 : decode cX3_antidifferentiate 58 = .ok (.lconst 1, 1) := by decide +kernel
theorem dX3_antidifferentiate_59 : decode cX3_antidifferentiate 59 = .ok (.aload_n 0, 1) := by decide +kernel
theorem dX3_antidifferentiate_60 : decode cX3_antidifferentiate 60 = .ok (.iload_n 1, 1) := by decide +kernel
theorem dX3_antidifferentiate_61 : decode cX3_antidifferentiate 61 = .ok (.iload 6, 2) := by decide +kernel
theorem dX3_antidifferentiate_63 : decode cX3_antidifferentiate 63 = .ok (.iconst 1, 1) := by decide +kernel
theorem dX3_antidifferentiate_64 : decode cX3_antidifferentiate 64 = .ok (.isub, 1) := by decide +kernel
theorem dX3_antidifferentiate_65 : decode cX3_antidifferentiate 65 = .ok (.invokevirtual 53, 3) := by decide +kernel
theorem dX3_antidifferentiate_68 : decode cX3_antidifferentiate 68 = .ok (.lmul, 1) := by decide +kernel
theorem dX3_antidifferentiate_69 : decode cX3_antidifferentiate 69 = .ok (.aload_n 0, 1) := by decide +kernel
theorem dX3_antidifferentiate_70 : decode cX3_antidifferentiate 70 = .ok (.iload_n 1, 1) := by decide +kernel
theorem dX3_antidifferentiate_71 : decode cX3_antidifferentiate 71 = .ok (.iload 6, 2) := by decide +kernel
theorem dX3_antidifferentiate_73 : decode cX3_antidifferentiate 73 = .ok (.iconst 1, 1) := by decide +kernel
theorem dX3_antidifferentiate_74 : decode cX3_antidifferentiate 74 = .ok (.iadd, 1) := by decide +kernel
theorem dX3_antidifferentiate_75 : decode cX3_antidifferentiate 75 = .ok (.invokevirtual 53, 3) := by decide +kernel
theorem dX3_antidifferentiate_78 : decode cX3_antidifferentiate 78 = .ok (.lsub, 1) := by decide +kernel
theorem dX3_antidifferentiate_79 : decode cX3_antidifferentiate 79 = .ok (.ldc2_w 47, 3) := by decide +kernel
theorem dX3_antidifferentiate_82 : decode cX3_antidifferentiate 82 = .ok (.iload 6, 2) := by decide +kernel
theorem dX3_antidifferentiate_84 : decode cX3_antidifferentiate 84 = .ok (.i2l, 1) := by decide +kernel
theorem dX3_antidifferentiate_85 : decode cX3_antidifferentiate 85 = .ok (.lmul, 1) := by decide +kernel
theorem dX3_antidifferentiate_86 : decode cX3_antidifferentiate 86 = .ok (.invokestatic 88, 3) := by decide +kernel
theorem dX3_antidifferentiate_89 : decode cX3_antidifferentiate 89 = .ok (.lstore 7, 2) := by decide +kernel
theorem dX3_antidifferentiate_91 : decode cX3_antidifferentiate 91 = .ok (.aload_n 0, 1) := by decide +kernel
theorem dX3_antidifferentiate_92 : decode cX3_antidifferentiate 92 = .ok (.bipush 8, 2) := by decide +kernel
theorem dX3_antidifferentiate_94 : decode cX3_antidifferentiate 94 = .ok (.iload 6, 2) := by decide +kernel
theorem dX3_antidifferentiate_96 : decode cX3_antidifferentiate 96 = .ok (.lload 7, 2) := by decide +kernel
theorem dX3_antidifferentiate_98 : decode cX3_antidifferentiate 98 = .ok (.invokevirtual 49, 3) := by decide +kernel
theorem dX3_antidifferentiate_101 : decode cX3_antidifferentiate 101 = .ok (.lload 4, 2) := by decide +kernel
theorem dX3_antidifferentiate_103 : decode cX3_antidifferentiate 103 = .ok (.iload 6, 2) := by decide +kernel
theorem dX3_antidifferentiate_105 : decode cX3_antidifferentiate 105 = .ok (.iconst 2, 1) := by decide +kernel
theorem dX3_antidifferentiate_106 : decode cX3_antidifferentiate 106 = .ok (.irem, 1) := by decide +kernel
theorem dX3_antidifferentiate_107 : decode cX3_antidifferentiate 107 = .ok (.ifCond .ne 8, 3) := by decide +kernel
theorem dX3_antidifferentiate_110 : decode cX3_antidifferentiate 110 = .ok (.lload 7, 2) := by decide +kernel
theorem dX3_antidifferentiate_112 : decode cX3_antidifferentiate 112 = .ok (.goto 6, 3) := by decide +kernel
theorem dX3_antidifferentiate_115 : decode cX3_antidifferentiate 115 = .ok (.lload 7, 2) := by decide +kernel
theorem dX3_antidifferentiate_117 : decode cX3_antidifferentiate 117 = .ok (.lneg, 1) := by decide +kernel
theorem dX3_antidifferentiate_118 : decode cX3_antidifferentiate 118 = .ok (.ladd, 1) := by decide +kernel
theorem dX3_antidifferentiate_119 : decode cX3_antidifferentiate 119 = .ok (.lstore 4, 2) := by decide +kernel
theorem dX3_antidifferentiate_121 : decode cX3_antidifferentiate 121 = .ok (.iinc 6 1, 3) := by decide +kernel
theorem dX3_antidifferentiate_124 : decode cX3_antidifferentiate 124 = .ok (.goto (-84), 3) := by decide +kernel
theorem dX3_antidifferentiate_127 : decode cX3_antidifferentiate 127 = .ok (.aload_n 0, 1) := by decide +kernel
theorem dX3_antidifferentiate_128 : decode cX3_antidifferentiate 128 = .ok (.bipush 8, 2) := by decide +kernel
theorem dX3_antidifferentiate_130 : decode cX3_antidifferentiate 130 = .ok (.iconst 0, 1) := by decide +kernel
theorem dX3_antidifferentiate_131 : decode cX3_antidifferentiate 131 = .ok (.lload 4, 2) := by decide +kernel
theorem dX3_antidifferentiate_133 : decode cX3_antidifferentiate 133 = .ok (.lneg, 1) := by decide +kernel
theorem dX3_antidifferentiate_134 : decode cX3_antidifferentiate 134 = .ok (.invokevirtual 49, 3) := by decide +kernel
theorem dX3_antidifferentiate_137 : decode cX3_antidifferentiate 137 = .ok (.aload_n 0, 1) := by decide +kernel
theorem dX3_antidifferentiate_138 : decode cX3_antidifferentiate 138 = .ok (.iload_n 2, 1) := by decide +kernel
theorem dX3_antidifferentiate_139 : decode cX3_antidifferentiate 139 = .ok (.invokevirtual 85, 3) := by decide +kernel
theorem dX3_antidifferentiate_142 : decode cX3_antidifferentiate 142 = .ok (.lreturn, 1) := by decide +kernel
set_option maxRecDepth 20000 in
theorem ggX3_goes_X3_multiplies : GoodIn wsX3_goes wsX3_multiplies := goodIn_r _ [6, 1, 7, 8, 9, 10, 5, 11, 12, 13, 14, 15, 16, 17, 18, 19, 20, 21, 22, 23, 24, 25, 26, 27, 28, 29, 30, 31, 32, 33, 34, 39, 40, 41, 42, 43, 44, 45, 46] (by decide +kernel) (by decide +kernel)
set_option maxRecDepth 20000 in
theorem gX3_goes_X3_multiplies : GoodIn wsX3_goes (wsV RX3 108 RX3 yX3_multiplies wsX3_multiplies) := goodIn_app (goodIn_of _ (by decide +kernel)) ggX3_goes_X3_multiplies
set_option maxRecDepth 20000 in
theorem ggX3_goes_X3_copies : GoodIn wsX3_goes wsX3_copies := goodIn_r _ [38, 1, 17, 18, 19, 5, 20, 16, 12, 13, 14, 15, 39, 40, 41, 42, 43, 44, 45, 46] (by decide +kernel) (by decide +kernel)
set_option maxRecDepth 20000 in
theorem gX3_goes_X3_copies : GoodIn wsX3_goes (wsV RX3 71 RX3 yX3_copies wsX3_copies) := goodIn_app (goodIn_of _ (by decide +kernel)) ggX3_goes_X3_copies
set_option maxRecDepth 20000 in
theorem ggX3_goes_X3_of : GoodIn wsX3_goes wsX3_of := goodIn_r _ [20, 16, 39, 40, 41, 42, 43, 44, 45, 46] (by decide +kernel) (by decide +kernel)
set_option maxRecDepth 20000 in
theorem gX3_goes_X3_of : GoodIn wsX3_goes (wsV RX3 53 RX3 yX3_of wsX3_of) := goodIn_app (goodIn_of _ (by decide +kernel)) ggX3_goes_X3_of
set_option maxRecDepth 20000 in
theorem ggX3_goes_X3_sets : GoodIn wsX3_goes wsX3_sets := goodIn_r _ [15, 16, 39, 40, 41, 42, 43, 44, 45, 46] (by decide +kernel) (by decide +kernel)
set_option maxRecDepth 20000 in
theorem gX3_goes_X3_sets : GoodIn wsX3_goes (wsV RX3 49 RX3 yX3_sets wsX3_sets) := goodIn_app (goodIn_of _ (by decide +kernel)) ggX3_goes_X3_sets
set_option maxRecDepth 20000 in
theorem ggX3_goes_X3_trims : GoodIn wsX3_goes wsX3_trims := goodIn_r _ [28, 1, 29, 30, 31, 17, 18, 19, 5, 20, 16, 32, 33, 34, 39, 40, 41, 42, 43, 44, 45, 46] (by decide +kernel) (by decide +kernel)
set_option maxRecDepth 20000 in
theorem gX3_goes_X3_trims : GoodIn wsX3_goes (wsV RX3 67 RX3 yX3_trims wsX3_trims) := goodIn_app (goodIn_of _ (by decide +kernel)) ggX3_goes_X3_trims
theorem dX3_goes_0 : decode cX3_goes 0 = .ok (.aload_n 0, 1) := by decide +kernel
theorem dX3_goes_1 : decode cX3_goes 1 = .ok (.iload_n 1, 1) := by decide +kernel
theorem dX3_goes_2 : decode cX3_goes 2 = .ok (.bipush 9, 2) := by decide +kernel
theorem dX3_goes_4 : decode cX3_goes 4 = .ok (.invokevirtual 108, 3) := by decide +kernel
theorem dX3_goes_7 : decode cX3_goes 7 = .ok (.lstore 5, 2) := by decide +kernel
theorem dX3_goes_9 : decode cX3_goes 9 = .ok (.lload 5, 2) := by decide +kernel
theorem dX3_goes_11 : decode cX3_goes 11 = .ok (.lconst 0, 1) := by decide +kernel
theorem dX3_goes_12 : decode cX3_goes 12 = .ok (.lcmp, 1) := by decide +kernel
theorem dX3_goes_13 : decode cX3_goes 13 = .ok (.ifCond .eq 6, 3) := by decide +kernel
theorem dX3_goes_16 : decode cX3_goes 16 = .ok (.lload 5, 2) := by decide +kernel
theorem dX3_goes_18 : decode cX3_goes 18 = .ok (.lreturn, 1) := by decide +kernel
theorem dX3_goes_19 : decode cX3_goes 19 = .ok (.aload_n 0, 1) := by decide +kernel
theorem dX3_goes_20 : decode cX3_goes 20 = .ok (.bipush 8, 2) := by decide +kernel
theorem dX3_goes_22 : decode cX3_goes 22 = .ok (.bipush 11, 2) := by decide +kernel
theorem dX3_goes_24 : decode cX3_goes 24 = .ok (.invokevirtual 71, 3) := by decide +kernel
theorem dX3_goes_27 : decode cX3_goes 27 = .ok (.iconst 0, 1) := by decide +kernel
theorem dX3_goes_28 : decode cX3_goes 28 = .ok (.istore 7, 2) := by decide +kernel
theorem dX3_goes_30 : decode cX3_goes 30 = .ok (.iload 7, 2) := by decide +kernel
theorem dX3_goes_32 : decode cX3_goes 32 = .ok (.aload_n 0, 1) := by decide +kernel
theorem dX3_goes_33 : decode cX3_goes 33 = .ok (.getfield 13, 3) := by decide +kernel
theorem dX3_goes_36 : decode cX3_goes 36 = .ok (.bipush 11, 2) := by decide +kernel
theorem dX3_goes_38 : decode cX3_goes 38 = .ok (.iaload, 1) := by decide +kernel
theorem dX3_goes_39 : decode cX3_goes 39 = .ok (.if_icmp .gt 28, 3) := by decide +kernel
theorem dX3_goes_42 : decode cX3_goes 42 = .ok (.aload_n 0, 1) := by decide +kernel
theorem dX3_goes_43 : decode cX3_goes 43 = .ok (.bipush 11, 2) := by decide +kernel
theorem dX3_goes_45 : decode cX3_goes 45 = .ok (.iload 7, 2) := by decide +kernel
theorem dX3_goes_47 : decode cX3_goes 47 = .ok (.iload_n 2, 1) := by decide +kernel
theorem dX3_goes_48 : decode cX3_goes 48 = .ok (.i2l, 1) := by decide +kernel
theorem dX3_goes_49 : decode cX3_goes 49 = .ok (.aload_n 0, 1) := by decide +kernel
theorem dX3_goes_50 : decode cX3_goes 50 = .ok (.bipush 11, 2) := by decide +kernel
theorem dX3_goes_52 : decode cX3_goes 52 = .ok (.iload 7, 2) := by decide +kernel
theorem dX3_goes_54 : decode cX3_goes 54 = .ok (.invokevirtual 53, 3) := by decide +kernel
theorem dX3_goes_57 : decode cX3_goes 57 = .ok (.lmul, 1) := by decide +kernel
theorem dX3_goes_58 : decode cX3_goes 58 = .ok (.invokevirtual 49, 3) := by decide +kernel
theorem dX3_goes_61 : decode cX3_goes 61 = .ok (.iinc 7 1, 3) := by decide +kernel
theorem dX3_goes_64 : decode cX3_goes 64 = .ok (.goto (-34), 3) := by decide +kernel
theorem dX3_goes_67 : decode cX3_goes 67 = .ok (.aload_n 0, 1) := by decide +kernel
theorem dX3_goes_68 : decode cX3_goes 68 = .ok (.bipush 11, 2) := by decide +kernel
theorem dX3_goes_70 : decode cX3_goes 70 = .ok (.iconst 0, 1) := by decide +kernel
theorem dX3_goes_71 : decode cX3_goes 71 = .ok (.aload_n 0, 1) := by decide +kernel
theorem dX3_goes_72 : decode cX3_goes 72 = .ok (.bipush 11, 2) := by decide +kernel
theorem dX3_goes_74 : decode cX3_goes 74 = .ok (.iconst 0, 1) := by decide +kernel
theorem dX3_goes_75 : decode cX3_goes 75 = .ok (.invokevirtual 53, 3) := by decide +kernel
theorem dX3_goes_78 : decode cX3_goes 78 = .ok (.lload_n 3, 1) := by decide +kernel
theorem dX3_goes_79 : decode cX3_goes 79 = .ok (.ladd, 1) := by decide +kernel
theorem dX3_goes_80 : decode cX3_goes 80 = .ok (.invokevirtual 49, 3) := by decide +kernel
theorem dX3_goes_83 : decode cX3_goes 83 = .ok (.aload_n 0, 1) := by decide +kernel
theorem dX3_goes_84 : decode cX3_goes 84 = .ok (.getfield 13, 3) := by decide +kernel
theorem dX3_goes_87 : decode cX3_goes 87 = .ok (.bipush 11, 2) := by decide +kernel
theorem dX3_goes_89 : decode cX3_goes 89 = .ok (.aload_n 0, 1) := by decide +kernel
theorem dX3_goes_90 : decode cX3_goes 90 = .ok (.getfield 13, 3) := by decide +kernel
theorem dX3_goes_93 : decode cX3_goes 93 = .ok (.bipush 10, 2) := by decide +kernel
theorem dX3_goes_95 : decode cX3_goes 95 = .ok (.iaload, 1) := by decide +kernel
theorem dX3_goes_96 : decode cX3_goes 96 = .ok (.aload_n 0, 1) := by decide +kernel
theorem dX3_goes_97 : decode cX3_goes 97 = .ok (.getfield 13, 3) := by decide +kernel
theorem dX3_goes_100 : decode cX3_goes 100 = .ok (.bipush 11, 2) := by decide +kernel
theorem dX3_goes_102 : decode cX3_goes 102 = .ok (.iaload, 1) := by decide +kernel
theorem dX3_goes_103 : decode cX3_goes 103 = .ok (.if_icmp .le 13, 3) := by decide +kernel
theorem dX3_goes_106 : decode cX3_goes 106 = .ok (.aload_n 0, 1) := by decide +kernel
theorem dX3_goes_107 : decode cX3_goes 107 = .ok (.getfield 13, 3) := by decide +kernel
theorem dX3_goes_110 : decode cX3_goes 110 = .ok (.bipush 10, 2) := by decide +kernel
theorem dX3_goes_112 : decode cX3_goes 112 = .ok (.iaload, 1) := by decide +kernel
theorem dX3_goes_113 : decode cX3_goes 113 = .ok (.goto 10, 3) := by decide +kernel
theorem dX3_goes_116 : decode cX3_goes 116 = .ok (.aload_n 0, 1) := by decide +kernel
theorem dX3_goes_117 : decode cX3_goes 117 = .ok (.getfield 13, 3) := by decide +kernel
theorem dX3_goes_120 : decode cX3_goes 120 = .ok (.bipush 11, 2) := by decide +kernel
theorem dX3_goes_122 : decode cX3_goes 122 = .ok (.iaload, 1) := by decide +kernel
theorem dX3_goes_123 : decode cX3_goes 123 = .ok (.iastore, 1) := by decide +kernel
theorem dX3_goes_124 : decode cX3_goes 124 = .ok (.iconst 0, 1) := by decide +kernel
theorem dX3_goes_125 : decode cX3_goes 125 = .ok (.istore 7, 2) := by decide +kernel
theorem dX3_goes_127 : decode cX3_goes 127 = .ok (.iload 7, 2) := by decide +kernel
theorem dX3_goes_129 : decode cX3_goes 129 = .ok (.aload_n 0, 1) := by decide +kernel
theorem dX3_goes_130 : decode cX3_goes 130 = .ok (.getfield 13, 3) := by decide +kernel
theorem dX3_goes_133 : decode cX3_goes 133 = .ok (.bipush 11, 2) := by decide +kernel
theorem dX3_goes_135 : decode cX3_goes 135 = .ok (.iaload, 1) := by decide +kernel
theorem dX3_goes_136 : decode cX3_goes 136 = .ok (.if_icmp .gt 34, 3) := by decide +kernel
theorem dX3_goes_139 : decode cX3_goes 139 = .ok (.aload_n 0, 1) := by decide +kernel
theorem dX3_goes_140 : decode cX3_goes 140 = .ok (.bipush 11, 2) := by decide +kernel
theorem dX3_goes_142 : decode cX3_goes 142 = .ok (.iload 7, 2) := by decide +kernel
theorem dX3_goes_144 : decode cX3_goes 144 = .ok (.aload_n 0, 1) := by decide +kernel
theorem dX3_goes_145 : decode cX3_goes 145 = .ok (.bipush 11, 2) := by decide +kernel
theorem dX3_goes_147 : decode cX3_goes 147 = .ok (.iload 7, 2) := by decide +kernel
theorem dX3_goes_149 : decode cX3_goes 149 = .ok (.invokevirtual 53, 3) := by decide +kernel
theorem dX3_goes_152 : decode cX3_goes 152 = .ok (.aload_n 0, 1) := by decide +kernel
theorem dX3_goes_153 : decode cX3_goes 153 = .ok (.bipush 10, 2) := by decide +kernel
theorem dX3_goes_155 : decode cX3_goes 155 = .ok (.iload 7, 2) := by decide +kernel
theorem dX3_goes_157 : decode cX3_goes 157 = .ok (.invokevirtual 53, 3) := by decide +kernel
theorem dX3_goes_160 : decode cX3_goes 160 = .ok (.lsub, 1) := by decide +kernel
theorem dX3_goes_161 : decode cX3_goes 161 = .ok (.invokevirtual 49, 3) := by decide +kernel
theorem dX3_goes_164 : decode cX3_goes 164 = .ok (.iinc 7 1, 3) := by decide +kernel
theorem dX3_goes_167 : decode cX3_goes 167 = .ok (.goto (-40), 3) := by decide +kernel
theorem dX3_goes_170 : decode cX3_goes 170 = .ok (.aload_n 0, 1) := by decide +kernel
theorem dX3_goes_171 : decode cX3_goes 171 = .ok (.bipush 11, 2) := by decide +kernel
theorem dX3_goes_173 : decode cX3_goes 173 = .ok (.invokevirtual 67, 3) := by decide +kernel
theorem dX3_goes_176 : decode cX3_goes 176 = .ok (.lreturn, 1) := by decide +kernel
set_option maxRecDepth 20000 in
theorem ggX3_compose_X3_isSeries : GoodIn wsX3_compose wsX3_isSeries := goodIn_r _ [6, 7, 8, 9, 5, 10] (by decide +kernel) (by decide +kernel)
set_option maxRecDepth 20000 in
theorem gX3_compose_X3_isSeries : GoodIn wsX3_compose (va_wsS RX3 75 yX3_isSeries wsX3_isSeries) := goodIn_app (goodIn_of _ (by decide +kernel)) ggX3_compose_X3_isSeries
set_option maxRecDepth 20000 in
theorem ggX3_compose_X3_clears : GoodIn wsX3_compose wsX3_clears := goodIn_r _ [14, 2, 15, 16, 17, 5, 18, 19, 51, 52, 53, 54, 55, 56, 57, 58] (by decide +kernel) (by decide +kernel)
set_option maxRecDepth 20000 in
theorem gX3_compose_X3_clears : GoodIn wsX3_compose (wsV RX3 103 RX3 yX3_clears wsX3_clears) := goodIn_app (goodIn_of _ (by decide +kernel)) ggX3_compose_X3_clears
set_option maxRecDepth 20000 in
theorem ggX3_compose_X3_of : GoodIn wsX3_compose wsX3_of := goodIn_r _ [23, 19, 51, 52, 53, 54, 55, 56, 57, 58] (by decide +kernel) (by decide +kernel)
set_option maxRecDepth 20000 in
theorem gX3_compose_X3_of : GoodIn wsX3_compose (wsV RX3 53 RX3 yX3_of wsX3_of) := goodIn_app (goodIn_of _ (by decide +kernel)) ggX3_compose_X3_of
set_option maxRecDepth 20000 in
theorem ggX3_compose_X3_goes : GoodIn wsX3_compose wsX3_goes := goodIn_r _ [27, 2, 28, 29, 30, 5, 31, 32, 11, 12, 13, 14, 15, 16, 17, 18, 19, 20, 21, 22, 23, 33, 34, 35, 36, 37, 38, 39, 40, 41, 42, 43, 44, 45, 46, 47, 48, 49, 50, 51, 52, 53, 54, 55, 56, 57, 58] (by decide +kernel) (by decide +kernel)
set_option maxRecDepth 20000 in
theorem gX3_compose_X3_goes : GoodIn wsX3_compose (wsV RX3 115 RX3 yX3_goes wsX3_goes) := goodIn_app (goodIn_of _ (by decide +kernel)) ggX3_compose_X3_goes
set_option maxRecDepth 20000 in
theorem ggX3_compose_X3_copies : GoodIn wsX3_compose wsX3_copies := goodIn_r _ [50, 2, 20, 21, 22, 5, 23, 19, 15, 16, 17, 18, 51, 52, 53, 54, 55, 56, 57, 58] (by decide +kernel) (by decide +kernel)
set_option maxRecDepth 20000 in
theorem gX3_compose_X3_copies : GoodIn wsX3_compose (wsV RX3 71 RX3 yX3_copies wsX3_copies) := goodIn_app (goodIn_of _ (by decide +kernel)) ggX3_compose_X3_copies
theorem dX3_compose_0 : decode cX3_compose 0 = .ok (.iload_n 1, 1) := by decide +kernel
theorem dX3_compose_1 : decode cX3_compose 1 = .ok (.invokestatic 75, 3) := by decide +kernel
theorem dX3_compose_4 : decode cX3_compose 4 = .ok (.ifCond .eq 17, 3) := by decide +kernel
theorem dX3_compose_7 : decode cX3_compose 7 = .ok (.iload_n 2, 1) := by decide +kernel
theorem dX3_compose_8 : decode cX3_compose 8 = .ok (.invokestatic 75, 3) := by decide +kernel
theorem dX3_compose_11 : decode cX3_compose 11 = .ok (.ifCond .eq 10, 3) := by decide +kernel
theorem dX3_compose_14 : decode cX3_compose 14 = .ok (.iload_n 3, 1) := by decide +kernel
theorem dX3_compose_15 : decode cX3_compose 15 = .ok (.invokestatic 75, 3) := by decide +kernel
theorem dX3_compose_18 : decode cX3_compose 18 = .ok (.ifCond .ne 7, 3) := by decide +kernel
theorem dX3_compose_21 : decode cX3_compose 21 = .ok (.ldc2_w 83, 3) := by decide +kernel
theorem dX3_compose_24 : decode cX3_compose 24 = .ok (.lreturn, 1) := by decide +kernel
theorem dX3_compose_25 : decode cX3_compose 25 = .ok (.aload_n 0, 1) := by decide +kernel
theorem dX3_compose_26 : decode cX3_compose 26 = .ok (.bipush 9, 2) := by decide +kernel
theorem dX3_compose_28 : decode cX3_compose 28 = .ok (.iconst 0, 1) := by decide +kernel
theorem dX3_compose_29 : decode cX3_compose 29 = .ok (.invokevirtual 103, 3) := by decide +kernel
theorem dX3_compose_32 : decode cX3_compose 32 = .ok (.aload_n 0, 1) := by decide +kernel
theorem dX3_compose_33 : decode cX3_compose 33 = .ok (.bipush 10, 2) := by decide +kernel
theorem dX3_compose_35 : decode cX3_compose 35 = .ok (.iconst 0, 1) := by decide +kernel
theorem dX3_compose_36 : decode cX3_compose 36 = .ok (.invokevirtual 103, 3) := by decide +kernel
theorem dX3_compose_39 : decode cX3_compose 39 = .ok (.aload_n 0, 1) := by decide +kernel
theorem dX3_compose_40 : decode cX3_compose 40 = .ok (.getfield 13, 3) := by decide +kernel
theorem dX3_compose_43 : decode cX3_compose 43 = .ok (.iload_n 1, 1) := by decide +kernel
theorem dX3_compose_44 : decode cX3_compose 44 = .ok (.iaload, 1) := by decide +kernel
theorem dX3_compose_45 : decode cX3_compose 45 = .ok (.istore 4, 2) := by decide +kernel
theorem dX3_compose_47 : decode cX3_compose 47 = .ok (.iload 4, 2) := by decide +kernel
theorem dX3_compose_49 : decode cX3_compose 49 = .ok (.ifCond .lt 59, 3) := by decide +kernel
theorem dX3_compose_52 : decode cX3_compose 52 = .ok (.aload_n 0, 1) := by decide +kernel
theorem dX3_compose_53 : decode cX3_compose 53 = .ok (.iload_n 2, 1) := by decide +kernel
theorem dX3_compose_54 : decode cX3_compose 54 = .ok (.iload 4, 2) := by decide +kernel
theorem dX3_compose_56 : decode cX3_compose 56 = .ok (.ifCond .le 7, 3) := by decide +kernel
theorem dX3_compose_59 : decode cX3_compose 59 = .ok (.iconst 2, 1) := by decide +kernel
theorem dX3_compose_60 : decode cX3_compose 60 = .ok (.goto 4, 3) := by decide +kernel
theorem dX3_compose_63 : decode cX3_compose 63 = .ok (.iconst 1, 1) := by decide +kernel
theorem dX3_compose_64 : decode cX3_compose 64 = .ok (.aload_n 0, 1) := by decide +kernel
theorem dX3_compose_65 : decode cX3_compose 65 = .ok (.iload_n 1, 1) := by decide +kernel
theorem dX3_compose_66 : decode cX3_compose 66 = .ok (.iload 4, 2) := by decide +kernel
theorem dX3_compose_68 : decode cX3_compose 68 = .ok (.invokevirtual 53, 3) := by decide +kernel
theorem dX3_compose_71 : decode cX3_compose 71 = .ok (.invokevirtual 115, 3) := by decide +kernel
theorem dX3_compose_74 : decode cX3_compose 74 = .ok (.lstore 5, 2) := by decide +kernel
theorem dX3_compose_76 : decode cX3_compose 76 = .ok (.lload 5, 2) := by decide +kernel
theorem dX3_compose_78 : decode cX3_compose 78 = .ok (.lconst 0, 1) := by decide +kernel
theorem dX3_compose_79 : decode cX3_compose 79 = .ok (.lcmp, 1) := by decide +kernel
theorem dX3_compose_80 : decode cX3_compose 80 = .ok (.ifCond .eq 6, 3) := by decide +kernel
theorem dX3_compose_83 : decode cX3_compose 83 = .ok (.lload 5, 2) := by decide +kernel
theorem dX3_compose_85 : decode cX3_compose 85 = .ok (.lreturn, 1) := by decide +kernel
theorem dX3_compose_86 : decode cX3_compose 86 = .ok (.aload_n 0, 1) := by decide +kernel
theorem dX3_compose_87 : decode cX3_compose 87 = .ok (.bipush 9, 2) := by decide +kernel
theorem dX3_compose_89 : decode cX3_compose 89 = .ok (.bipush 10, 2) := by decide +kernel
theorem dX3_compose_91 : decode cX3_compose 91 = .ok (.invokevirtual 71, 3) := by decide +kernel
theorem dX3_compose_94 : decode cX3_compose 94 = .ok (.aload_n 0, 1) := by decide +kernel
theorem dX3_compose_95 : decode cX3_compose 95 = .ok (.bipush 11, 2) := by decide +kernel
theorem dX3_compose_97 : decode cX3_compose 97 = .ok (.bipush 9, 2) := by decide +kernel
theorem dX3_compose_99 : decode cX3_compose 99 = .ok (.invokevirtual 71, 3) := by decide +kernel
theorem dX3_compose_102 : decode cX3_compose 102 = .ok (.iinc 4 (-1), 3) := by decide +kernel
theorem dX3_compose_105 : decode cX3_compose 105 = .ok (.goto (-58), 3) := by decide +kernel
theorem dX3_compose_108 : decode cX3_compose 108 = .ok (.aload_n 0, 1) := by decide +kernel
theorem dX3_compose_109 : decode cX3_compose 109 = .ok (.bipush 9, 2) := by decide +kernel
theorem dX3_compose_111 : decode cX3_compose 111 = .ok (.iload_n 3, 1) := by decide +kernel
theorem dX3_compose_112 : decode cX3_compose 112 = .ok (.invokevirtual 71, 3) := by decide +kernel
theorem dX3_compose_115 : decode cX3_compose 115 = .ok (.aload_n 0, 1) := by decide +kernel
theorem dX3_compose_116 : decode cX3_compose 116 = .ok (.getfield 13, 3) := by decide +kernel
theorem dX3_compose_119 : decode cX3_compose 119 = .ok (.iload_n 3, 1) := by decide +kernel
theorem dX3_compose_120 : decode cX3_compose 120 = .ok (.iaload, 1) := by decide +kernel
theorem dX3_compose_121 : decode cX3_compose 121 = .ok (.i2l, 1) := by decide +kernel
theorem dX3_compose_122 : decode cX3_compose 122 = .ok (.lreturn, 1) := by decide +kernel
set_option maxRecDepth 20000 in
theorem ggX3_divide_X3_isSeries : GoodIn wsX3_divide wsX3_isSeries := goodIn_r _ [8, 9, 10, 11, 7, 12] (by decide +kernel) (by decide +kernel)
set_option maxRecDepth 20000 in
theorem gX3_divide_X3_isSeries : GoodIn wsX3_divide (va_wsS RX3 75 yX3_isSeries wsX3_isSeries) := goodIn_app (goodIn_of _ (by decide +kernel)) ggX3_divide_X3_isSeries
set_option maxRecDepth 20000 in
theorem ggX3_divide_X3_isPoint : GoodIn wsX3_divide wsX3_isPoint := goodIn_r _ [15, 16, 4, 10, 11, 7, 12] (by decide +kernel) (by decide +kernel)
set_option maxRecDepth 20000 in
theorem gX3_divide_X3_isPoint : GoodIn wsX3_divide (va_wsS RX3 92 yX3_isPoint wsX3_isPoint) := goodIn_app (goodIn_of _ (by decide +kernel)) ggX3_divide_X3_isPoint
set_option maxRecDepth 20000 in
theorem ggX3_divide_X3_valueAt : GoodIn wsX3_divide wsX3_valueAt := goodIn_r _ [20, 2, 3, 4, 21, 22, 23, 7, 24, 25, 26, 27, 28, 55, 56, 57, 58, 59, 60, 61, 62] (by decide +kernel) (by decide +kernel)
set_option maxRecDepth 20000 in
theorem gX3_divide_X3_valueAt : GoodIn wsX3_divide (wsV RX3 95 RX3 yX3_valueAt wsX3_valueAt) := goodIn_app (goodIn_of _ (by decide +kernel)) ggX3_divide_X3_valueAt
set_option maxRecDepth 20000 in
theorem ggX3_divide_X3_clears : GoodIn wsX3_divide wsX3_clears := goodIn_r _ [32, 2, 33, 34, 35, 7, 36, 25, 55, 56, 57, 58, 59, 60, 61, 62] (by decide +kernel) (by decide +kernel)
set_option maxRecDepth 20000 in
theorem gX3_divide_X3_clears : GoodIn wsX3_divide (wsV RX3 103 RX3 yX3_clears wsX3_clears) := goodIn_app (goodIn_of _ (by decide +kernel)) ggX3_divide_X3_clears
set_option maxRecDepth 20000 in
theorem ggX3_divide_X3_of : GoodIn wsX3_divide wsX3_of := goodIn_r _ [24, 25, 55, 56, 57, 58, 59, 60, 61, 62] (by decide +kernel) (by decide +kernel)
set_option maxRecDepth 20000 in
theorem gX3_divide_X3_of : GoodIn wsX3_divide (wsV RX3 53 RX3 yX3_of wsX3_of) := goodIn_app (goodIn_of _ (by decide +kernel)) ggX3_divide_X3_of
set_option maxRecDepth 20000 in
theorem ggX3_divide_X3_rounded : GoodIn wsX3_divide wsX3_rounded := goodIn_r _ [28, 3] (by decide +kernel) (by decide +kernel)
set_option maxRecDepth 20000 in
theorem gX3_divide_X3_rounded : GoodIn wsX3_divide (va_wsS RX3 88 yX3_rounded wsX3_rounded) := goodIn_app (goodIn_of _ (by decide +kernel)) ggX3_divide_X3_rounded
set_option maxRecDepth 20000 in
theorem ggX3_divide_X3_sets : GoodIn wsX3_divide wsX3_sets := goodIn_r _ [36, 25, 55, 56, 57, 58, 59, 60, 61, 62] (by decide +kernel) (by decide +kernel)
set_option maxRecDepth 20000 in
theorem gX3_divide_X3_sets : GoodIn wsX3_divide (wsV RX3 49 RX3 yX3_sets wsX3_sets) := goodIn_app (goodIn_of _ (by decide +kernel)) ggX3_divide_X3_sets
set_option maxRecDepth 20000 in
theorem ggX3_divide_X3_gives : GoodIn wsX3_divide wsX3_gives := goodIn_r _ [40, 2, 41, 42, 43, 7, 44, 45, 46, 47, 21, 22, 23, 24, 25, 48, 49, 50, 51, 52, 53, 54, 33, 34, 35, 36, 55, 56, 57, 58, 59, 60, 61, 62] (by decide +kernel) (by decide +kernel)
set_option maxRecDepth 20000 in
theorem gX3_divide_X3_gives : GoodIn wsX3_divide (wsV RX3 85 RX3 yX3_gives wsX3_gives) := goodIn_app (goodIn_of _ (by decide +kernel)) ggX3_divide_X3_gives
theorem dX3_divide_0 : decode cX3_divide 0 = .ok (.iload_n 1, 1) := by decide +kernel
theorem dX3_divide_1 : decode cX3_divide 1 = .ok (.invokestatic 75, 3) := by decide +kernel
theorem dX3_divide_4 : decode cX3_divide 4 = .ok (.ifCond .eq 17, 3) := by decide +kernel
theorem dX3_divide_7 : decode cX3_divide 7 = .ok (.iload_n 2, 1) := by decide +kernel
theorem dX3_divide_8 : decode cX3_divide 8 = .ok (.invokestatic 92, 3) := by decide +kernel
theorem dX3_divide_11 : decode cX3_divide 11 = .ok (.ifCond .eq 10, 3) := by decide +kernel
theorem dX3_divide_14 : decode cX3_divide 14 = .ok (.iload_n 3, 1) := by decide +kernel
theorem dX3_divide_15 : decode cX3_divide 15 = .ok (.invokestatic 75, 3) := by decide +kernel
theorem dX3_divide_18 : decode cX3_divide 18 = .ok (.ifCond .ne 7, 3) := by decide +kernel
theorem dX3_divide_21 : decode cX3_divide 21 = .ok (.ldc2_w 83, 3) := by decide +kernel
theorem dX3_divide_24 : decode cX3_divide 24 = .ok (.lreturn, 1) := by decide +kernel
theorem dX3_divide_25 : decode cX3_divide 25 = .ok (.aload_n 0, 1) := by decide +kernel
theorem dX3_divide_26 : decode cX3_divide 26 = .ok (.getfield 13, 3) := by decide +kernel
theorem dX3_divide_29 : decode cX3_divide 29 = .ok (.iload_n 1, 1) := by decide +kernel
theorem dX3_divide_30 : decode cX3_divide 30 = .ok (.iaload, 1) := by decide +kernel
theorem dX3_divide_31 : decode cX3_divide 31 = .ok (.istore 4, 2) := by decide +kernel
theorem dX3_divide_33 : decode cX3_divide 33 = .ok (.aload_n 0, 1) := by decide +kernel
theorem dX3_divide_34 : decode cX3_divide 34 = .ok (.iload_n 1, 1) := by decide +kernel
theorem dX3_divide_35 : decode cX3_divide 35 = .ok (.iload_n 2, 1) := by decide +kernel
theorem dX3_divide_36 : decode cX3_divide 36 = .ok (.i2l, 1) := by decide +kernel
theorem dX3_divide_37 : decode cX3_divide 37 = .ok (.invokevirtual 95, 3) := by decide +kernel
theorem dX3_divide_40 : decode cX3_divide 40 = .ok (.lstore 5, 2) := by decide +kernel
theorem dX3_divide_42 : decode cX3_divide 42 = .ok (.aload_n 0, 1) := by decide +kernel
theorem dX3_divide_43 : decode cX3_divide 43 = .ok (.bipush 8, 2) := by decide +kernel
theorem dX3_divide_45 : decode cX3_divide 45 = .ok (.iload 4, 2) := by decide +kernel
theorem dX3_divide_47 : decode cX3_divide 47 = .ok (.ifCond .le 10, 3) := by decide +kernel
theorem dX3_divide_50 : decode cX3_divide 50 = .ok (.iload 4, 2) := by decide +kernel
theorem dX3_divide_52 : decode cX3_divide 52 = .ok (.iconst 1, 1) := by decide +kernel
theorem dX3_divide_53 : decode cX3_divide 53 = .ok (.isub, 1) := by decide +kernel
theorem dX3_divide_54 : decode cX3_divide 54 = .ok (.goto 4, 3) := by decide +kernel
theorem dX3_divide_57 : decode cX3_divide 57 = .ok (.iconst 0, 1) := by decide +kernel
theorem dX3_divide_58 : decode cX3_divide 58 = .ok (.invokevirtual 103, 3) := by decide +kernel
theorem dX3_divide_61 : decode cX3_divide 61 = .ok (.iload 4, 2) := by decide +kernel
theorem dX3_divide_63 : decode cX3_divide 63 = .ok (.istore 7, 2) := by decide +kernel
theorem dX3_divide_65 : decode cX3_divide 65 = .ok (.iload 7, 2) := by decide +kernel
theorem dX3_divide_67 : decode cX3_divide 67 = .ok (.iconst 2, 1) := by decide +kernel
theorem dX3_divide_68 : decode cX3_divide 68 = .ok (.if_icmp .lt 63, 3) := by decide +kernel
theorem dX3_divide_71 : decode cX3_divide 71 = .ok (.aload_n 0, 1) := by decide +kernel
theorem dX3_divide_72 : decode cX3_divide 72 = .ok (.bipush 8, 2) := by decide +kernel
theorem dX3_divide_74 : decode cX3_divide 74 = .ok (.iload 7, 2) := by decide +kernel
theorem dX3_divide_76 : decode cX3_divide 76 = .ok (.iconst 1, 1) := by decide +kernel
theorem dX3_divide_77 : decode cX3_divide 77 = .ok (.isub, 1) := by decide +kernel
theorem dX3_divide_78 : decode cX3_divide 78 = .ok (.ldc2_w 47, 3) := by decide +kernel
theorem dX3_divide_81 : decode cX3_divide 81 = .ok (.aload_n 0, 1) := by decide +kernel
theorem dX3_divide_82 : decode cX3_divide 82 = .ok (.iload_n 1, 1) := by decide +kernel
theorem dX3_divide_83 : decode cX3_divide 83 = .ok (.iload 7, 2) := by decide +kernel
theorem dX3_divide_85 : decode cX3_divide 85 = .ok (.invokevirtual 53, 3) := by decide +kernel
theorem dX3_divide_88 : decode cX3_divide 88 = .ok (.lmul, 1) := by decide +kernel
theorem dX3_divide_89 : decode cX3_divide 89 = .ok (.ldc2_w 47, 3) := by decide +kernel
theorem dX3_divide_92 : decode cX3_divide 92 = .ok (.iload_n 2, 1) := by decide +kernel
theorem dX3_divide_93 : decode cX3_divide 93 = .ok (.i2l, 1) := by decide +kernel
theorem dX3_divide_94 : decode cX3_divide 94 = .ok (.lmul, 1) := by decide +kernel
theorem dX3_divide_95 : decode cX3_divide 95 = .ok (.aload_n 0, 1) := by decide +kernel
theorem dX3_divide_96 : decode cX3_divide 96 = .ok (.bipush 8, 2) := by decide +kernel
theorem dX3_divide_98 : decode cX3_divide 98 = .ok (.iload 7, 2) := by decide +kernel
theorem dX3_divide_100 : decode cX3_divide 100 = .ok (.invokevirtual 53, 3) := by decide +kernel
theorem dX3_divide_103 : decode cX3_divide 103 = .ok (.lmul, 1) := by decide +kernel
theorem dX3_divide_104 : decode cX3_divide 104 = .ok (.ldc2_w 45, 3) := by decide +kernel
theorem dX3_divide_107 : decode cX3_divide 107 = .ok (.invokestatic 88, 3) := by decide +kernel
theorem dX3_divide_110 : decode cX3_divide 110 = .ok (.ladd, 1) := by decide +kernel
theorem dX3_divide_111 : decode cX3_divide 111 = .ok (.aload_n 0, 1) := by decide +kernel
theorem dX3_divide_112 : decode cX3_divide 112 = .ok (.bipush 8, 2) := by decide +kernel
theorem dX3_divide_114 : decode cX3_divide 114 = .ok (.iload 7, 2) := by decide +kernel
theorem dX3_divide_116 : decode cX3_divide 116 = .ok (.iconst 1, 1) := by decide +kernel
theorem dX3_divide_117 : decode cX3_divide 117 = .ok (.iadd, 1) := by decide +kernel
theorem dX3_divide_118 : decode cX3_divide 118 = .ok (.invokevirtual 53, 3) := by decide +kernel
theorem dX3_divide_121 : decode cX3_divide 121 = .ok (.lsub, 1) := by decide +kernel
theorem dX3_divide_122 : decode cX3_divide 122 = .ok (.invokevirtual 49, 3) := by decide +kernel
theorem dX3_divide_125 : decode cX3_divide 125 = .ok (.iinc 7 (-1), 3) := by decide +kernel
theorem dX3_divide_128 : decode cX3_divide 128 = .ok (.goto (-63), 3) := by decide +kernel
theorem dX3_divide_131 : decode cX3_divide 131 = .ok (.aload_n 0, 1) := by decide +kernel
theorem dX3_divide_132 : decode cX3_divide 132 = .ok (.bipush 8, 2) := by decide +kernel
theorem dX3_divide_134 : decode cX3_divide 134 = .ok (.iconst 0, 1) := by decide +kernel
theorem dX3_divide_135 : decode cX3_divide 135 = .ok (.iload 4, 2) := by decide +kernel
theorem dX3_divide_137 : decode cX3_divide 137 = .ok (.ifCond .ne 7, 3) := by decide +kernel
theorem dX3_divide_140 : decode cX3_divide 140 = .ok (.lconst 0, 1) := by decide +kernel
theorem dX3_divide_141 : decode cX3_divide 141 = .ok (.goto 40, 3) := by decide +kernel
theorem dX3_divide_144 : decode cX3_divide 144 = .ok (.aload_n 0, 1) := by decide +kernel
theorem dX3_divide_145 : decode cX3_divide 145 = .ok (.iload_n 1, 1) := by decide +kernel
theorem dX3_divide_146 : decode cX3_divide 146 = .ok (.iconst 1, 1) := by decide +kernel
theorem dX3_divide_147 : decode cX3_divide 147 = .ok (.invokevirtual 53, 3) := by decide +kernel
theorem dX3_divide_150 : decode cX3_divide 150 = .ok (.iload_n 2, 1) := by decide +kernel
theorem dX3_divide_151 : decode cX3_divide 151 = .ok (.i2l, 1) := by decide +kernel
theorem dX3_divide_152 : decode cX3_divide 152 = .ok (.aload_n 0, 1) := by decide +kernel
theorem dX3_divide_153 : decode cX3_divide 153 = .ok (.bipush 8, 2) := by decide +kernel
theorem dX3_divide_155 : decode cX3_divide 155 = .ok (.iconst 1, 1) := by decide +kernel
theorem dX3_divide_156 : decode cX3_divide 156 = .ok (.invokevirtual 53, 3) := by decide +kernel
theorem dX3_divide_159 : decode cX3_divide 159 = .ok (.lmul, 1) := by decide +kernel
theorem dX3_divide_160 : decode cX3_divide 160 = .ok (.ldc2_w 45, 3) := by decide +kernel
theorem dX3_divide_163 : decode cX3_divide 163 = .ok (.invokestatic 88, 3) := by decide +kernel
theorem dX3_divide_166 : decode cX3_divide 166 = .ok (.ladd, 1) := by decide +kernel
theorem dX3_divide_167 : decode cX3_divide 167 = .ok (.aload_n 0, 1) := by decide +kernel
theorem dX3_divide_168 : decode cX3_divide 168 = .ok (.bipush 8, 2) := by decide +kernel
theorem dX3_divide_170 : decode cX3_divide 170 = .ok (.iconst 2, 1) := by decide +kernel
theorem dX3_divide_171 : decode cX3_divide 171 = .ok (.invokevirtual 53, 3) := by decide +kernel
theorem dX3_divide_174 : decode cX3_divide 174 = .ok (.ldc2_w 47, 3) := by decide +kernel
theorem dX3_divide_177 : decode cX3_divide 177 = .ok (.invokestatic 88, 3) := by decide +kernel
theorem dX3_divide_180 : decode cX3_divide 180 = .ok (.lsub, 1) := by decide +kernel
theorem dX3_divide_181 : decode cX3_divide 181 = .ok (.invokevirtual 49, 3) := by decide +kernel
theorem dX3_divide_184 : decode cX3_divide 184 = .ok (.aload_n 0, 1) := by decide +kernel
theorem dX3_divide_185 : decode cX3_divide 185 = .ok (.iload_n 3, 1) := by decide +kernel
theorem dX3_divide_186 : decode cX3_divide 186 = .ok (.invokevirtual 85, 3) := by decide +kernel
theorem dX3_divide_189 : decode cX3_divide 189 = .ok (.lstore 7, 2) := by decide +kernel
theorem dX3_divide_191 : decode cX3_divide 191 = .ok (.lload 7, 2) := by decide +kernel
theorem dX3_divide_193 : decode cX3_divide 193 = .ok (.lconst 0, 1) := by decide +kernel
theorem dX3_divide_194 : decode cX3_divide 194 = .ok (.lcmp, 1) := by decide +kernel
theorem dX3_divide_195 : decode cX3_divide 195 = .ok (.ifCond .ge 8, 3) := by decide +kernel
theorem dX3_divide_198 : decode cX3_divide 198 = .ok (.lload 7, 2) := by decide +kernel
theorem dX3_divide_200 : decode cX3_divide 200 = .ok (.goto 5, 3) := by decide +kernel
theorem dX3_divide_203 : decode cX3_divide 203 = .ok (.lload 5, 2) := by decide +kernel
theorem dX3_divide_205 : decode cX3_divide 205 = .ok (.lreturn, 1) := by decide +kernel
set_option maxRecDepth 20000 in
theorem ggX3_cutBy_X3_of : GoodIn wsX3_cutBy wsX3_of := goodIn_r _ [6, 7, 11, 12, 13, 14, 15, 16, 17, 18] (by decide +kernel) (by decide +kernel)
set_option maxRecDepth 20000 in
theorem gX3_cutBy_X3_of : GoodIn wsX3_cutBy (wsV RX3 53 RX3 yX3_of wsX3_of) := goodIn_app (goodIn_of _ (by decide +kernel)) ggX3_cutBy_X3_of
set_option maxRecDepth 20000 in
theorem ggX3_cutBy_X3_size : GoodIn wsX3_cutBy wsX3_size := goodIn_r _ [10] (by decide +kernel) (by decide +kernel)
set_option maxRecDepth 20000 in
theorem gX3_cutBy_X3_size : GoodIn wsX3_cutBy (va_wsS RX3 59 yX3_size wsX3_size) := goodIn_app (goodIn_of _ (by decide +kernel)) ggX3_cutBy_X3_size
theorem dX3_cutBy_0 : decode cX3_cutBy 0 = .ok (.aload_n 0, 1) := by decide +kernel
theorem dX3_cutBy_1 : decode cX3_cutBy 1 = .ok (.getfield 13, 3) := by decide +kernel
theorem dX3_cutBy_4 : decode cX3_cutBy 4 = .ok (.iload_n 1, 1) := by decide +kernel
theorem dX3_cutBy_5 : decode cX3_cutBy 5 = .ok (.iaload, 1) := by decide +kernel
theorem dX3_cutBy_6 : decode cX3_cutBy 6 = .ok (.istore 4, 2) := by decide +kernel
theorem dX3_cutBy_8 : decode cX3_cutBy 8 = .ok (.lconst 0, 1) := by decide +kernel
theorem dX3_cutBy_9 : decode cX3_cutBy 9 = .ok (.lstore 5, 2) := by decide +kernel
theorem dX3_cutBy_11 : decode cX3_cutBy 11 = .ok (.iload 4, 2) := by decide +kernel
theorem dX3_cutBy_13 : decode cX3_cutBy 13 = .ok (.ifCond .le 42, 3) := by decide +kernel
theorem dX3_cutBy_16 : decode cX3_cutBy 16 = .ok (.lload 5, 2) := by decide +kernel
theorem dX3_cutBy_18 : decode cX3_cutBy 18 = .ok (.aload_n 0, 1) := by decide +kernel
theorem dX3_cutBy_19 : decode cX3_cutBy 19 = .ok (.iload_n 1, 1) := by decide +kernel
theorem dX3_cutBy_20 : decode cX3_cutBy 20 = .ok (.iload 4, 2) := by decide +kernel
theorem dX3_cutBy_22 : decode cX3_cutBy 22 = .ok (.invokevirtual 53, 3) := by decide +kernel
theorem dX3_cutBy_25 : decode cX3_cutBy 25 = .ok (.invokestatic 59, 3) := by decide +kernel
theorem dX3_cutBy_28 : decode cX3_cutBy 28 = .ok (.ladd, 1) := by decide +kernel
theorem dX3_cutBy_29 : decode cX3_cutBy 29 = .ok (.lload_n 2, 1) := by decide +kernel
theorem dX3_cutBy_30 : decode cX3_cutBy 30 = .ok (.lcmp, 1) := by decide +kernel
theorem dX3_cutBy_31 : decode cX3_cutBy 31 = .ok (.ifCond .gt 24, 3) := by decide +kernel
theorem dX3_cutBy_34 : decode cX3_cutBy 34 = .ok (.lload 5, 2) := by decide +kernel
theorem dX3_cutBy_36 : decode cX3_cutBy 36 = .ok (.aload_n 0, 1) := by decide +kernel
theorem dX3_cutBy_37 : decode cX3_cutBy 37 = .ok (.iload_n 1, 1) := by decide +kernel
theorem dX3_cutBy_38 : decode cX3_cutBy 38 = .ok (.iload 4, 2) := by decide +kernel
theorem dX3_cutBy_40 : decode cX3_cutBy 40 = .ok (.invokevirtual 53, 3) := by decide +kernel
theorem dX3_cutBy_43 : decode cX3_cutBy 43 = .ok (.invokestatic 59, 3) := by decide +kernel
theorem dX3_cutBy_46 : decode cX3_cutBy 46 = .ok (.ladd, 1) := by decide +kernel
theorem dX3_cutBy_47 : decode cX3_cutBy 47 = .ok (.lstore 5, 2) := by decide +kernel
theorem dX3_cutBy_49 : decode cX3_cutBy 49 = .ok (.iinc 4 (-1), 3) := by decide +kernel
theorem dX3_cutBy_52 : decode cX3_cutBy 52 = .ok (.goto (-41), 3) := by decide +kernel
theorem dX3_cutBy_55 : decode cX3_cutBy 55 = .ok (.iload 4, 2) := by decide +kernel
theorem dX3_cutBy_57 : decode cX3_cutBy 57 = .ok (.ireturn, 1) := by decide +kernel
set_option maxRecDepth 20000 in
theorem ggX3_isTolerance_X3_in : GoodIn wsX3_isTolerance wsX3_in := goodIn_r _ [5] (by decide +kernel) (by decide +kernel)
set_option maxRecDepth 20000 in
theorem gX3_isTolerance_X3_in : GoodIn wsX3_isTolerance (va_wsS RX3 39 yX3_in wsX3_in) := goodIn_app (goodIn_of _ (by decide +kernel)) ggX3_isTolerance_X3_in
theorem dX3_isTolerance_0 : decode cX3_isTolerance 0 = .ok (.iload_n 0, 1) := by decide +kernel
theorem dX3_isTolerance_1 : decode cX3_isTolerance 1 = .ok (.i2l, 1) := by decide +kernel
theorem dX3_isTolerance_2 : decode cX3_isTolerance 2 = .ok (.lconst 0, 1) := by decide +kernel
theorem dX3_isTolerance_3 : decode cX3_isTolerance 3 = .ok (.ldc2_w 119, 3) := by decide +kernel
theorem dX3_isTolerance_6 : decode cX3_isTolerance 6 = .ok (.invokestatic 39, 3) := by decide +kernel
theorem dX3_isTolerance_9 : decode cX3_isTolerance 9 = .ok (.ireturn, 1) := by decide +kernel
set_option maxRecDepth 20000 in
theorem ggX3_cut_X3_isSeries : GoodIn wsX3_cut wsX3_isSeries := goodIn_r _ [6, 7, 8, 9, 5, 10] (by decide +kernel) (by decide +kernel)
set_option maxRecDepth 20000 in
theorem gX3_cut_X3_isSeries : GoodIn wsX3_cut (va_wsS RX3 75 yX3_isSeries wsX3_isSeries) := goodIn_app (goodIn_of _ (by decide +kernel)) ggX3_cut_X3_isSeries
set_option maxRecDepth 20000 in
theorem ggX3_cut_X3_isTolerance : GoodIn wsX3_cut wsX3_isTolerance := goodIn_r _ [13, 14, 8, 9, 5, 10] (by decide +kernel) (by decide +kernel)
set_option maxRecDepth 20000 in
theorem gX3_cut_X3_isTolerance : GoodIn wsX3_cut (va_wsS RX3 121 yX3_isTolerance wsX3_isTolerance) := goodIn_app (goodIn_of _ (by decide +kernel)) ggX3_cut_X3_isTolerance
set_option maxRecDepth 20000 in
theorem ggX3_cut_X3_cutBy : GoodIn wsX3_cut wsX3_cutBy := goodIn_r _ [18, 2, 19, 20, 21, 5, 22, 23, 24, 25, 26, 31, 32, 33, 34, 35, 36, 37, 38] (by decide +kernel) (by decide +kernel)
set_option maxRecDepth 20000 in
theorem gX3_cut_X3_cutBy : GoodIn wsX3_cut (wsV RX3 124 RX3 yX3_cutBy wsX3_cutBy) := goodIn_app (goodIn_of _ (by decide +kernel)) ggX3_cut_X3_cutBy
set_option maxRecDepth 20000 in
theorem ggX3_cut_X3_sets : GoodIn wsX3_cut wsX3_sets := goodIn_r _ [30, 23, 31, 32, 33, 34, 35, 36, 37, 38] (by decide +kernel) (by decide +kernel)
set_option maxRecDepth 20000 in
theorem gX3_cut_X3_sets : GoodIn wsX3_cut (wsV RX3 49 RX3 yX3_sets wsX3_sets) := goodIn_app (goodIn_of _ (by decide +kernel)) ggX3_cut_X3_sets
theorem dX3_cut_0 : decode cX3_cut 0 = .ok (.iload_n 1, 1) := by decide +kernel
theorem dX3_cut_1 : decode cX3_cut 1 = .ok (.invokestatic 75, 3) := by decide +kernel
theorem dX3_cut_4 : decode cX3_cut 4 = .ok (.ifCond .eq 10, 3) := by decide +kernel
theorem dX3_cut_7 : decode cX3_cut 7 = .ok (.iload_n 2, 1) := by decide +kernel
theorem dX3_cut_8 : decode cX3_cut 8 = .ok (.invokestatic 121, 3) := by decide +kernel
theorem dX3_cut_11 : decode cX3_cut 11 = .ok (.ifCond .ne 7, 3) := by decide +kernel
theorem dX3_cut_14 : decode cX3_cut 14 = .ok (.ldc2_w 83, 3) := by decide +kernel
theorem dX3_cut_17 : decode cX3_cut 17 = .ok (.lreturn, 1) := by decide +kernel
theorem dX3_cut_18 : decode cX3_cut 18 = .ok (.aload_n 0, 1) := by decide +kernel
theorem dX3_cut_19 : decode cX3_cut 19 = .ok (.iload_n 1, 1) := by decide +kernel
theorem dX3_cut_20 : decode cX3_cut 20 = .ok (.iload_n 2, 1) := by decide +kernel
theorem dX3_cut_21 : decode cX3_cut 21 = .ok (.i2l, 1) := by decide +kernel
theorem dX3_cut_22 : decode cX3_cut 22 = .ok (.invokevirtual 124, 3) := by decide +kernel
theorem dX3_cut_25 : decode cX3_cut 25 = .ok (.istore_n 3, 1) := by decide +kernel
theorem dX3_cut_26 : decode cX3_cut 26 = .ok (.aload_n 0, 1) := by decide +kernel
theorem dX3_cut_27 : decode cX3_cut 27 = .ok (.getfield 13, 3) := by decide +kernel
theorem dX3_cut_30 : decode cX3_cut 30 = .ok (.iload_n 1, 1) := by decide +kernel
theorem dX3_cut_31 : decode cX3_cut 31 = .ok (.iaload, 1) := by decide +kernel
theorem dX3_cut_32 : decode cX3_cut 32 = .ok (.iload_n 3, 1) := by decide +kernel
theorem dX3_cut_33 : decode cX3_cut 33 = .ok (.isub, 1) := by decide +kernel
theorem dX3_cut_34 : decode cX3_cut 34 = .ok (.istore 4, 2) := by decide +kernel
theorem dX3_cut_36 : decode cX3_cut 36 = .ok (.iload_n 3, 1) := by decide +kernel
theorem dX3_cut_37 : decode cX3_cut 37 = .ok (.iconst 1, 1) := by decide +kernel
theorem dX3_cut_38 : decode cX3_cut 38 = .ok (.iadd, 1) := by decide +kernel
theorem dX3_cut_39 : decode cX3_cut 39 = .ok (.istore 5, 2) := by decide +kernel
theorem dX3_cut_41 : decode cX3_cut 41 = .ok (.iload 5, 2) := by decide +kernel
theorem dX3_cut_43 : decode cX3_cut 43 = .ok (.bipush 24, 2) := by decide +kernel
theorem dX3_cut_45 : decode cX3_cut 45 = .ok (.if_icmp .gt 17, 3) := by decide +kernel
theorem dX3_cut_48 : decode cX3_cut 48 = .ok (.aload_n 0, 1) := by decide +kernel
theorem dX3_cut_49 : decode cX3_cut 49 = .ok (.iload_n 1, 1) := by decide +kernel
theorem dX3_cut_50 : decode cX3_cut 50 = .ok (.iload 5, 2) := by decide +kernel
theorem dX3_cut_52 : decode cX3_cut 52 = .ok (.lconst 0, 1) := by decide +kernel
theorem dX3_cut_53 : decode cX3_cut 53 = .ok (.invokevirtual 49, 3) := by decide +kernel
theorem dX3_cut_56 : decode cX3_cut 56 = .ok (.iinc 5 1, 3) := by decide +kernel
theorem dX3_cut_59 : decode cX3_cut 59 = .ok (.goto (-18), 3) := by decide +kernel
theorem dX3_cut_62 : decode cX3_cut 62 = .ok (.aload_n 0, 1) := by decide +kernel
theorem dX3_cut_63 : decode cX3_cut 63 = .ok (.getfield 13, 3) := by decide +kernel
theorem dX3_cut_66 : decode cX3_cut 66 = .ok (.iload_n 1, 1) := by decide +kernel
theorem dX3_cut_67 : decode cX3_cut 67 = .ok (.iload_n 3, 1) := by decide +kernel
theorem dX3_cut_68 : decode cX3_cut 68 = .ok (.iastore, 1) := by decide +kernel
theorem dX3_cut_69 : decode cX3_cut 69 = .ok (.iload 4, 2) := by decide +kernel
theorem dX3_cut_71 : decode cX3_cut 71 = .ok (.i2l, 1) := by decide +kernel
theorem dX3_cut_72 : decode cX3_cut 72 = .ok (.lreturn, 1) := by decide +kernel
set_option maxRecDepth 20000 in
theorem ggX3_basis_X3_in : GoodIn wsX3_basis wsX3_in := goodIn_r _ [7] (by decide +kernel) (by decide +kernel)
set_option maxRecDepth 20000 in
theorem gX3_basis_X3_in : GoodIn wsX3_basis (va_wsS RX3 39 yX3_in wsX3_in) := goodIn_app (goodIn_of _ (by decide +kernel)) ggX3_basis_X3_in
set_option maxRecDepth 20000 in
theorem ggX3_basis_X3_isSeries : GoodIn wsX3_basis wsX3_isSeries := goodIn_r _ [10, 11, 4, 5, 6, 7] (by decide +kernel) (by decide +kernel)
set_option maxRecDepth 20000 in
theorem gX3_basis_X3_isSeries : GoodIn wsX3_basis (va_wsS RX3 75 yX3_isSeries wsX3_isSeries) := goodIn_app (goodIn_of _ (by decide +kernel)) ggX3_basis_X3_isSeries
set_option maxRecDepth 20000 in
theorem ggX3_basis_X3_clears : GoodIn wsX3_basis wsX3_clears := goodIn_r _ [15, 16, 17, 18, 19, 6, 20, 21, 22, 23, 24, 25, 26, 27, 28, 29] (by decide +kernel) (by decide +kernel)
set_option maxRecDepth 20000 in
theorem gX3_basis_X3_clears : GoodIn wsX3_basis (wsV RX3 103 RX3 yX3_clears wsX3_clears) := goodIn_app (goodIn_of _ (by decide +kernel)) ggX3_basis_X3_clears
set_option maxRecDepth 20000 in
theorem ggX3_basis_X3_sets : GoodIn wsX3_basis wsX3_sets := goodIn_r _ [20, 21, 22, 23, 24, 25, 26, 27, 28, 29] (by decide +kernel) (by decide +kernel)
set_option maxRecDepth 20000 in
theorem gX3_basis_X3_sets : GoodIn wsX3_basis (wsV RX3 49 RX3 yX3_sets wsX3_sets) := goodIn_app (goodIn_of _ (by decide +kernel)) ggX3_basis_X3_sets
theorem dX3_basis_0 : decode cX3_basis 0 = .ok (.iload_n 1, 1) := by decide +kernel
theorem dX3_basis_1 : decode cX3_basis 1 = .ok (.i2l, 1) := by decide +kernel
theorem dX3_basis_2 : decode cX3_basis 2 = .ok (.lconst 0, 1) := by decide +kernel
theorem dX3_basis_3 : decode cX3_basis 3 = .ok (.ldc2_w 79, 3) := by decide +kernel
theorem dX3_basis_6 : decode cX3_basis 6 = .ok (.invokestatic 39, 3) := by decide +kernel
theorem dX3_basis_9 : decode cX3_basis 9 = .ok (.ifCond .eq 10, 3) := by decide +kernel
theorem dX3_basis_12 : decode cX3_basis 12 = .ok (.iload_n 2, 1) := by decide +kernel
theorem dX3_basis_13 : decode cX3_basis 13 = .ok (.invokestatic 75, 3) := by decide +kernel
theorem dX3_basis_16 : decode cX3_basis 16 = .ok (.ifCond .ne 7, 3) := by decide +kernel
theorem dX3_basis_19 : decode cX3_basis 19 = .ok (.ldc2_w 83, 3) := by decide +kernel
theorem dX3_basis_22 : decode cX3_basis 22 = .ok (.lreturn, 1) := by decide +kernel
theorem dX3_basis_23 : decode cX3_basis 23 = .ok (.aload_n 0, 1) := by decide +kernel
theorem dX3_basis_24 : decode cX3_basis 24 = .ok (.iload_n 2, 1) := by decide +kernel
theorem dX3_basis_25 : decode cX3_basis 25 = .ok (.iload_n 1, 1) := by decide +kernel
theorem dX3_basis_26 : decode cX3_basis 26 = .ok (.invokevirtual 103, 3) := by decide +kernel
theorem dX3_basis_29 : decode cX3_basis 29 = .ok (.aload_n 0, 1) := by decide +kernel
theorem dX3_basis_30 : decode cX3_basis 30 = .ok (.iload_n 2, 1) := by decide +kernel
theorem dX3_basis_31 : decode cX3_basis 31 = .ok (.iload_n 1, 1) := by decide +kernel
