theorem dX3_rounded_42 : decode cX3_rounded 42 = .ok (.lconst 1, 1) := by decide +kernel
theorem dX3_rounded_43 : decode cX3_rounded 43 = .ok (.ladd, 1) := by decide +kernel
theorem dX3_rounded_44 : decode cX3_rounded 44 = .ok (.goto 5, 3) := by decide +kernel
theorem dX3_rounded_47 : decode cX3_rounded 47 = .ok (.lload 4, 2) := by decide +kernel
theorem dX3_rounded_49 : decode cX3_rounded 49 = .ok (.lreturn, 1) := by decide +kernel
theorem dX3_of_0 : decode cX3_of 0 = .ok (.aload_n 0, 1) := by decide +kernel
theorem dX3_of_1 : decode cX3_of 1 = .ok (.getfield 7, 3) := by decide +kernel
theorem dX3_of_4 : decode cX3_of 4 = .ok (.bipush 64, 2) := by decide +kernel
theorem dX3_of_6 : decode cX3_of 6 = .ok (.iload_n 1, 1) := by decide +kernel
theorem dX3_of_7 : decode cX3_of 7 = .ok (.imul, 1) := by decide +kernel
theorem dX3_of_8 : decode cX3_of 8 = .ok (.iload_n 2, 1) := by decide +kernel
theorem dX3_of_9 : decode cX3_of 9 = .ok (.iadd, 1) := by decide +kernel
theorem dX3_of_10 : decode cX3_of 10 = .ok (.laload, 1) := by decide +kernel
theorem dX3_of_11 : decode cX3_of 11 = .ok (.lreturn, 1) := by decide +kernel
theorem dX3_sets_0 : decode cX3_sets 0 = .ok (.aload_n 0, 1) := by decide +kernel
theorem dX3_sets_1 : decode cX3_sets 1 = .ok (.getfield 7, 3) := by decide +kernel
theorem dX3_sets_4 : decode cX3_sets 4 = .ok (.bipush 64, 2) := by decide +kernel
theorem dX3_sets_6 : decode cX3_sets 6 = .ok (.iload_n 1, 1) := by decide +kernel
theorem dX3_sets_7 : decode cX3_sets 7 = .ok (.imul, 1) := by decide +kernel
theorem dX3_sets_8 : decode cX3_sets 8 = .ok (.iload_n 2, 1) := by decide +kernel
theorem dX3_sets_9 : decode cX3_sets 9 = .ok (.iadd, 1) := by decide +kernel
theorem dX3_sets_10 : decode cX3_sets 10 = .ok (.lload_n 3, 1) := by decide +kernel
theorem dX3_sets_11 : decode cX3_sets 11 = .ok (.lastore, 1) := by decide +kernel
theorem dX3_sets_12 : decode cX3_sets 12 = .ok (.return_, 1) := by decide +kernel
set_option maxRecDepth 20000 in
theorem ggX3_clears_X3_sets : GoodIn wsX3_clears wsX3_sets := goodIn_r _ [6, 7, 8, 9, 10, 11, 12, 13, 14, 15] (by decide +kernel) (by decide +kernel)
set_option maxRecDepth 20000 in
theorem gX3_clears_X3_sets : GoodIn wsX3_clears (wsV RX3 49 RX3 yX3_sets wsX3_sets) := goodIn_app (goodIn_of _ (by decide +kernel)) ggX3_clears_X3_sets
theorem dX3_clears_0 : decode cX3_clears 0 = .ok (.aload_n 0, 1) := by decide +kernel
theorem dX3_clears_1 : decode cX3_clears 1 = .ok (.getfield 13, 3) := by decide +kernel
theorem dX3_clears_4 : decode cX3_clears 4 = .ok (.iload_n 1, 1) := by decide +kernel
theorem dX3_clears_5 : decode cX3_clears 5 = .ok (.iload_n 2, 1) := by decide +kernel
theorem dX3_clears_6 : decode cX3_clears 6 = .ok (.iastore, 1) := by decide +kernel
theorem dX3_clears_7 : decode cX3_clears 7 = .ok (.iconst 0, 1) := by decide +kernel
theorem dX3_clears_8 : decode cX3_clears 8 = .ok (.istore_n 3, 1) := by decide +kernel
theorem dX3_clears_9 : decode cX3_clears 9 = .ok (.iload_n 3, 1) := by decide +kernel
theorem dX3_clears_10 : decode cX3_clears 10 = .ok (.bipush 64, 2) := by decide +kernel
theorem dX3_clears_12 : decode cX3_clears 12 = .ok (.if_icmp .ge 16, 3) := by decide +kernel
theorem dX3_clears_15 : decode cX3_clears 15 = .ok (.aload_n 0, 1) := by decide +kernel
theorem dX3_clears_16 : decode cX3_clears 16 = .ok (.iload_n 1, 1) := by decide +kernel
theorem dX3_clears_17 : decode cX3_clears 17 = .ok (.iload_n 3, 1) := by decide +kernel
theorem dX3_clears_18 : decode cX3_clears 18 = .ok (.lconst 0, 1) := by decide +kernel
theorem dX3_clears_19 : decode cX3_clears 19 = .ok (.invokevirtual 49, 3) := by decide +kernel
theorem dX3_clears_22 : decode cX3_clears 22 = .ok (.iinc 3 1, 3) := by decide +kernel
theorem dX3_clears_25 : decode cX3_clears 25 = .ok (.goto (-16), 3) := by decide +kernel
theorem dX3_clears_28 : decode cX3_clears 28 = .ok (.return_, 1) := by decide +kernel
set_option maxRecDepth 20000 in
theorem ggX3_copies_X3_of : GoodIn wsX3_copies wsX3_of := goodIn_r _ [6, 7, 12, 13, 14, 15, 16, 17, 18, 19] (by decide +kernel) (by decide +kernel)
set_option maxRecDepth 20000 in
theorem gX3_copies_X3_of : GoodIn wsX3_copies (wsV RX3 53 RX3 yX3_of wsX3_of) := goodIn_app (goodIn_of _ (by decide +kernel)) ggX3_copies_X3_of
set_option maxRecDepth 20000 in
theorem ggX3_copies_X3_sets : GoodIn wsX3_copies wsX3_sets := goodIn_r _ [11, 7, 12, 13, 14, 15, 16, 17, 18, 19] (by decide +kernel) (by decide +kernel)
set_option maxRecDepth 20000 in
theorem gX3_copies_X3_sets : GoodIn wsX3_copies (wsV RX3 49 RX3 yX3_sets wsX3_sets) := goodIn_app (goodIn_of _ (by decide +kernel)) ggX3_copies_X3_sets
theorem dX3_copies_0 : decode cX3_copies 0 = .ok (.aload_n 0, 1) := by decide +kernel
theorem dX3_copies_1 : decode cX3_copies 1 = .ok (.getfield 13, 3) := by decide +kernel
theorem dX3_copies_4 : decode cX3_copies 4 = .ok (.iload_n 2, 1) := by decide +kernel
theorem dX3_copies_5 : decode cX3_copies 5 = .ok (.aload_n 0, 1) := by decide +kernel
theorem dX3_copies_6 : decode cX3_copies 6 = .ok (.getfield 13, 3) := by decide +kernel
theorem dX3_copies_9 : decode cX3_copies 9 = .ok (.iload_n 1, 1) := by decide +kernel
theorem dX3_copies_10 : decode cX3_copies 10 = .ok (.iaload, 1) := by decide +kernel
theorem dX3_copies_11 : decode cX3_copies 11 = .ok (.iastore, 1) := by decide +kernel
theorem dX3_copies_12 : decode cX3_copies 12 = .ok (.iconst 0, 1) := by decide +kernel
theorem dX3_copies_13 : decode cX3_copies 13 = .ok (.istore_n 3, 1) := by decide +kernel
theorem dX3_copies_14 : decode cX3_copies 14 = .ok (.iload_n 3, 1) := by decide +kernel
theorem dX3_copies_15 : decode cX3_copies 15 = .ok (.bipush 64, 2) := by decide +kernel
theorem dX3_copies_17 : decode cX3_copies 17 = .ok (.if_icmp .ge 21, 3) := by decide +kernel
theorem dX3_copies_20 : decode cX3_copies 20 = .ok (.aload_n 0, 1) := by decide +kernel
theorem dX3_copies_21 : decode cX3_copies 21 = .ok (.iload_n 2, 1) := by decide +kernel
theorem dX3_copies_22 : decode cX3_copies 22 = .ok (.iload_n 3, 1) := by decide +kernel
theorem dX3_copies_23 : decode cX3_copies 23 = .ok (.aload_n 0, 1) := by decide +kernel
theorem dX3_copies_24 : decode cX3_copies 24 = .ok (.iload_n 1, 1) := by decide +kernel
theorem dX3_copies_25 : decode cX3_copies 25 = .ok (.iload_n 3, 1) := by decide +kernel
theorem dX3_copies_26 : decode cX3_copies 26 = .ok (.invokevirtual 53, 3) := by decide +kernel
theorem dX3_copies_29 : decode cX3_copies 29 = .ok (.invokevirtual 49, 3) := by decide +kernel
theorem dX3_copies_32 : decode cX3_copies 32 = .ok (.iinc 3 1, 3) := by decide +kernel
theorem dX3_copies_35 : decode cX3_copies 35 = .ok (.goto (-21), 3) := by decide +kernel
theorem dX3_copies_38 : decode cX3_copies 38 = .ok (.return_, 1) := by decide +kernel
set_option maxRecDepth 20000 in
theorem ggX3_trims_X3_of : GoodIn wsX3_trims wsX3_of := goodIn_r _ [9, 10, 14, 15, 16, 17, 18, 19, 20, 21] (by decide +kernel) (by decide +kernel)
set_option maxRecDepth 20000 in
theorem gX3_trims_X3_of : GoodIn wsX3_trims (wsV RX3 53 RX3 yX3_of wsX3_of) := goodIn_app (goodIn_of _ (by decide +kernel)) ggX3_trims_X3_of
set_option maxRecDepth 20000 in
theorem ggX3_trims_X3_size : GoodIn wsX3_trims wsX3_size := goodIn_r _ [13] (by decide +kernel) (by decide +kernel)
set_option maxRecDepth 20000 in
theorem gX3_trims_X3_size : GoodIn wsX3_trims (va_wsS RX3 59 yX3_size wsX3_size) := goodIn_app (goodIn_of _ (by decide +kernel)) ggX3_trims_X3_size
theorem dX3_trims_0 : decode cX3_trims 0 = .ok (.aload_n 0, 1) := by decide +kernel
theorem dX3_trims_1 : decode cX3_trims 1 = .ok (.getfield 13, 3) := by decide +kernel
theorem dX3_trims_4 : decode cX3_trims 4 = .ok (.iload_n 1, 1) := by decide +kernel
theorem dX3_trims_5 : decode cX3_trims 5 = .ok (.iaload, 1) := by decide +kernel
theorem dX3_trims_6 : decode cX3_trims 6 = .ok (.ifCond .le 32, 3) := by decide +kernel
theorem dX3_trims_9 : decode cX3_trims 9 = .ok (.aload_n 0, 1) := by decide +kernel
theorem dX3_trims_10 : decode cX3_trims 10 = .ok (.iload_n 1, 1) := by decide +kernel
theorem dX3_trims_11 : decode cX3_trims 11 = .ok (.aload_n 0, 1) := by decide +kernel
theorem dX3_trims_12 : decode cX3_trims 12 = .ok (.getfield 13, 3) := by decide +kernel
theorem dX3_trims_15 : decode cX3_trims 15 = .ok (.iload_n 1, 1) := by decide +kernel
theorem dX3_trims_16 : decode cX3_trims 16 = .ok (.iaload, 1) := by decide +kernel
theorem dX3_trims_17 : decode cX3_trims 17 = .ok (.invokevirtual 53, 3) := by decide +kernel
theorem dX3_trims_20 : decode cX3_trims 20 = .ok (.lconst 0, 1) := by decide +kernel
theorem dX3_trims_21 : decode cX3_trims 21 = .ok (.lcmp, 1) := by decide +kernel
theorem dX3_trims_22 : decode cX3_trims 22 = .ok (.ifCond .ne 16, 3) := by decide +kernel
theorem dX3_trims_25 : decode cX3_trims 25 = .ok (.aload_n 0, 1) := by decide +kernel
theorem dX3_trims_26 : decode cX3_trims 26 = .ok (.getfield 13, 3) := by decide +kernel
theorem dX3_trims_29 : decode cX3_trims 29 = .ok (.iload_n 1, 1) := by decide +kernel
theorem dX3_trims_30 : decode cX3_trims 30 = .ok (.dup2, 1) := by decide +kernel
theorem dX3_trims_31 : decode cX3_trims 31 = .ok (.iaload, 1) := by decide +kernel
theorem dX3_trims_32 : decode cX3_trims 32 = .ok (.iconst 1, 1) := by decide +kernel
theorem dX3_trims_33 : decode cX3_trims 33 = .ok (.isub, 1) := by decide +kernel
theorem dX3_trims_34 : decode cX3_trims 34 = .ok (.iastore, 1) := by decide +kernel
theorem dX3_trims_35 : decode cX3_trims 35 = .ok (.goto (-35), 3) := by decide +kernel
theorem dX3_trims_38 : decode cX3_trims 38 = .ok (.aload_n 0, 1) := by decide +kernel
theorem dX3_trims_39 : decode cX3_trims 39 = .ok (.getfield 13, 3) := by decide +kernel
theorem dX3_trims_42 : decode cX3_trims 42 = .ok (.iload_n 1, 1) := by decide +kernel
theorem dX3_trims_43 : decode cX3_trims 43 = .ok (.iaload, 1) := by decide +kernel
theorem dX3_trims_44 : decode cX3_trims 44 = .ok (.bipush 24, 2) := by decide +kernel
theorem dX3_trims_46 : decode cX3_trims 46 = .ok (.if_icmp .le 7, 3) := by decide +kernel
theorem dX3_trims_49 : decode cX3_trims 49 = .ok (.ldc2_w 57, 3) := by decide +kernel
theorem dX3_trims_52 : decode cX3_trims 52 = .ok (.lreturn, 1) := by decide +kernel
theorem dX3_trims_53 : decode cX3_trims 53 = .ok (.iconst 0, 1) := by decide +kernel
theorem dX3_trims_54 : decode cX3_trims 54 = .ok (.istore_n 2, 1) := by decide +kernel
theorem dX3_trims_55 : decode cX3_trims 55 = .ok (.iload_n 2, 1) := by decide +kernel
theorem dX3_trims_56 : decode cX3_trims 56 = .ok (.aload_n 0, 1) := by decide +kernel
theorem dX3_trims_57 : decode cX3_trims 57 = .ok (.getfield 13, 3) := by decide +kernel
theorem dX3_trims_60 : decode cX3_trims 60 = .ok (.iload_n 1, 1) := by decide +kernel
theorem dX3_trims_61 : decode cX3_trims 61 = .ok (.iaload, 1) := by decide +kernel
theorem dX3_trims_62 : decode cX3_trims 62 = .ok (.if_icmp .gt 29, 3) := by decide +kernel
theorem dX3_trims_65 : decode cX3_trims 65 = .ok (.aload_n 0, 1) := by decide +kernel
theorem dX3_trims_66 : decode cX3_trims 66 = .ok (.iload_n 1, 1) := by decide +kernel
theorem dX3_trims_67 : decode cX3_trims 67 = .ok (.iload_n 2, 1) := by decide +kernel
theorem dX3_trims_68 : decode cX3_trims 68 = .ok (.invokevirtual 53, 3) := by decide +kernel
theorem dX3_trims_71 : decode cX3_trims 71 = .ok (.invokestatic 59, 3) := by decide +kernel
theorem dX3_trims_74 : decode cX3_trims 74 = .ok (.ldc2_w 63, 3) := by decide +kernel
theorem dX3_trims_77 : decode cX3_trims 77 = .ok (.lcmp, 1) := by decide +kernel
theorem dX3_trims_78 : decode cX3_trims 78 = .ok (.ifCond .le 7, 3) := by decide +kernel
theorem dX3_trims_81 : decode cX3_trims 81 = .ok (.ldc2_w 65, 3) := by decide +kernel
theorem dX3_trims_84 : decode cX3_trims 84 = .ok (.lreturn, 1) := by decide +kernel
theorem dX3_trims_85 : decode cX3_trims 85 = .ok (.iinc 2 1, 3) := by decide +kernel
theorem dX3_trims_88 : decode cX3_trims 88 = .ok (.goto (-33), 3) := by decide +kernel
theorem dX3_trims_91 : decode cX3_trims 91 = .ok (.lconst 0, 1) := by decide +kernel
theorem dX3_trims_92 : decode cX3_trims 92 = .ok (.lreturn, 1) := by decide +kernel
set_option maxRecDepth 20000 in
theorem ggX3_gives_X3_trims : GoodIn wsX3_gives wsX3_trims := goodIn_r _ [6, 1, 7, 8, 9, 10, 11, 12, 5, 13, 14, 15, 16, 17, 26, 27, 28, 29, 30, 31, 32, 33] (by decide +kernel) (by decide +kernel)
set_option maxRecDepth 20000 in
theorem gX3_gives_X3_trims : GoodIn wsX3_gives (wsV RX3 67 RX3 yX3_trims wsX3_trims) := goodIn_app (goodIn_of _ (by decide +kernel)) ggX3_gives_X3_trims
set_option maxRecDepth 20000 in
theorem ggX3_gives_X3_copies : GoodIn wsX3_gives wsX3_copies := goodIn_r _ [21, 1, 10, 11, 12, 5, 13, 14, 22, 23, 24, 25, 26, 27, 28, 29, 30, 31, 32, 33] (by decide +kernel) (by decide +kernel)
set_option maxRecDepth 20000 in
theorem gX3_gives_X3_copies : GoodIn wsX3_gives (wsV RX3 71 RX3 yX3_copies wsX3_copies) := goodIn_app (goodIn_of _ (by decide +kernel)) ggX3_gives_X3_copies
theorem dX3_gives_0 : decode cX3_gives 0 = .ok (.aload_n 0, 1) := by decide +kernel
theorem dX3_gives_1 : decode cX3_gives 1 = .ok (.bipush 8, 2) := by decide +kernel
theorem dX3_gives_3 : decode cX3_gives 3 = .ok (.invokevirtual 67, 3) := by decide +kernel
theorem dX3_gives_6 : decode cX3_gives 6 = .ok (.lstore_n 2, 1) := by decide +kernel
theorem dX3_gives_7 : decode cX3_gives 7 = .ok (.lload_n 2, 1) := by decide +kernel
theorem dX3_gives_8 : decode cX3_gives 8 = .ok (.lconst 0, 1) := by decide +kernel
theorem dX3_gives_9 : decode cX3_gives 9 = .ok (.lcmp, 1) := by decide +kernel
theorem dX3_gives_10 : decode cX3_gives 10 = .ok (.ifCond .eq 5, 3) := by decide +kernel
theorem dX3_gives_13 : decode cX3_gives 13 = .ok (.lload_n 2, 1) := by decide +kernel
theorem dX3_gives_14 : decode cX3_gives 14 = .ok (.lreturn, 1) := by decide +kernel
theorem dX3_gives_15 : decode cX3_gives 15 = .ok (.aload_n 0, 1) := by decide +kernel
theorem dX3_gives_16 : decode cX3_gives 16 = .ok (.bipush 8, 2) := by decide +kernel
theorem dX3_gives_18 : decode cX3_gives 18 = .ok (.iload_n 1, 1) := by decide +kernel
theorem dX3_gives_19 : decode cX3_gives 19 = .ok (.invokevirtual 71, 3) := by decide +kernel
theorem dX3_gives_22 : decode cX3_gives 22 = .ok (.aload_n 0, 1) := by decide +kernel
theorem dX3_gives_23 : decode cX3_gives 23 = .ok (.getfield 13, 3) := by decide +kernel
theorem dX3_gives_26 : decode cX3_gives 26 = .ok (.iload_n 1, 1) := by decide +kernel
theorem dX3_gives_27 : decode cX3_gives 27 = .ok (.iaload, 1) := by decide +kernel
theorem dX3_gives_28 : decode cX3_gives 28 = .ok (.i2l, 1) := by decide +kernel
theorem dX3_gives_29 : decode cX3_gives 29 = .ok (.lreturn, 1) := by decide +kernel
set_option maxRecDepth 20000 in
theorem ggX3_setCoefficient_X3_isSeries : GoodIn wsX3_setCoefficient wsX3_isSeries := goodIn_r _ [9, 10, 11, 12, 8, 13] (by decide +kernel) (by decide +kernel)
set_option maxRecDepth 20000 in
theorem gX3_setCoefficient_X3_isSeries : GoodIn wsX3_setCoefficient (va_wsS RX3 75 yX3_isSeries wsX3_isSeries) := goodIn_app (goodIn_of _ (by decide +kernel)) ggX3_setCoefficient_X3_isSeries
set_option maxRecDepth 20000 in
theorem ggX3_setCoefficient_X3_in : GoodIn wsX3_setCoefficient wsX3_in := goodIn_r _ [13] (by decide +kernel) (by decide +kernel)
set_option maxRecDepth 20000 in
theorem gX3_setCoefficient_X3_in : GoodIn wsX3_setCoefficient (va_wsS RX3 39 yX3_in wsX3_in) := goodIn_app (goodIn_of _ (by decide +kernel)) ggX3_setCoefficient_X3_in
set_option maxRecDepth 20000 in
theorem ggX3_setCoefficient_X3_copies : GoodIn wsX3_setCoefficient wsX3_copies := goodIn_r _ [17, 5, 18, 19, 20, 8, 21, 22, 23, 24, 25, 26, 40, 41, 42, 43, 44, 45, 46, 47] (by decide +kernel) (by decide +kernel)
set_option maxRecDepth 20000 in
theorem gX3_setCoefficient_X3_copies : GoodIn wsX3_setCoefficient (wsV RX3 71 RX3 yX3_copies wsX3_copies) := goodIn_app (goodIn_of _ (by decide +kernel)) ggX3_setCoefficient_X3_copies
set_option maxRecDepth 20000 in
theorem ggX3_setCoefficient_X3_sets : GoodIn wsX3_setCoefficient wsX3_sets := goodIn_r _ [26, 22, 40, 41, 42, 43, 44, 45, 46, 47] (by decide +kernel) (by decide +kernel)
set_option maxRecDepth 20000 in
theorem gX3_setCoefficient_X3_sets : GoodIn wsX3_setCoefficient (wsV RX3 49 RX3 yX3_sets wsX3_sets) := goodIn_app (goodIn_of _ (by decide +kernel)) ggX3_setCoefficient_X3_sets
set_option maxRecDepth 20000 in
theorem ggX3_setCoefficient_X3_gives : GoodIn wsX3_setCoefficient wsX3_gives := goodIn_r _ [30, 5, 31, 32, 33, 8, 34, 35, 3, 36, 18, 19, 20, 21, 22, 37, 38, 39, 14, 15, 16, 17, 23, 24, 25, 26, 40, 41, 42, 43, 44, 45, 46, 47] (by decide +kernel) (by decide +kernel)
set_option maxRecDepth 20000 in
theorem gX3_setCoefficient_X3_gives : GoodIn wsX3_setCoefficient (wsV RX3 85 RX3 yX3_gives wsX3_gives) := goodIn_app (goodIn_of _ (by decide +kernel)) ggX3_setCoefficient_X3_gives
theorem dX3_setCoefficient_0 : decode cX3_setCoefficient 0 = .ok (.iload_n 1, 1) := by decide +kernel
theorem dX3_setCoefficient_1 : decode cX3_setCoefficient 1 = .ok (.invokestatic 75, 3) := by decide +kernel
theorem dX3_setCoefficient_4 : decode cX3_setCoefficient 4 = .ok (.ifCond .eq 29, 3) := by decide +kernel
theorem dX3_setCoefficient_7 : decode cX3_setCoefficient 7 = .ok (.iload_n 2, 1) := by decide +kernel
theorem dX3_setCoefficient_8 : decode cX3_setCoefficient 8 = .ok (.i2l, 1) := by decide +kernel
theorem dX3_setCoefficient_9 : decode cX3_setCoefficient 9 = .ok (.lconst 0, 1) := by decide +kernel
theorem dX3_setCoefficient_10 : decode cX3_setCoefficient 10 = .ok (.ldc2_w 79, 3) := by decide +kernel
theorem dX3_setCoefficient_13 : decode cX3_setCoefficient 13 = .ok (.invokestatic 39, 3) := by decide +kernel
theorem dX3_setCoefficient_16 : decode cX3_setCoefficient 16 = .ok (.ifCond .eq 17, 3) := by decide +kernel
theorem dX3_setCoefficient_19 : decode cX3_setCoefficient 19 = .ok (.iload_n 3, 1) := by decide +kernel
theorem dX3_setCoefficient_20 : decode cX3_setCoefficient 20 = .ok (.i2l, 1) := by decide +kernel
theorem dX3_setCoefficient_21 : decode cX3_setCoefficient 21 = .ok (.ldc2_w 81, 3) := by decide +kernel
theorem dX3_setCoefficient_24 : decode cX3_setCoefficient 24 = .ok (.ldc2_w 63, 3) := by decide +kernel
theorem dX3_setCoefficient_27 : decode cX3_setCoefficient 27 = .ok (.invokestatic 39, 3) := by decide +kernel
theorem dX3_setCoefficient_30 : decode cX3_setCoefficient 30 = .ok (.ifCond .ne 7, 3) := by decide +kernel
theorem dX3_setCoefficient_33 : decode cX3_setCoefficient 33 = .ok (.ldc2_w 83, 3) := by decide +kernel
theorem dX3_setCoefficient_36 : decode cX3_setCoefficient 36 = .ok (.lreturn, 1) := by decide +kernel
theorem dX3_setCoefficient_37 : decode cX3_setCoefficient 37 = .ok (.aload_n 0, 1) := by decide +kernel
theorem dX3_setCoefficient_38 : decode cX3_setCoefficient 38 = .ok (.iload_n 1, 1) := by decide +kernel
theorem dX3_setCoefficient_39 : decode cX3_setCoefficient 39 = .ok (.bipush 8, 2) := by decide +kernel
theorem dX3_setCoefficient_41 : decode cX3_setCoefficient 41 = .ok (.invokevirtual 71, 3) := by decide +kernel
theorem dX3_setCoefficient_44 : decode cX3_setCoefficient 44 = .ok (.aload_n 0, 1) := by decide +kernel
theorem dX3_setCoefficient_45 : decode cX3_setCoefficient 45 = .ok (.bipush 8, 2) := by decide +kernel
theorem dX3_setCoefficient_47 : decode cX3_setCoefficient 47 = .ok (.iload_n 2, 1) := by decide +kernel
theorem dX3_setCoefficient_48 : decode cX3_setCoefficient 48 = .ok (.iload_n 3, 1) := by decide +kernel
theorem dX3_setCoefficient_49 : decode cX3_setCoefficient 49 = .ok (.i2l, 1) := by decide +kernel
theorem dX3_setCoefficient_50 : decode cX3_setCoefficient 50 = .ok (.invokevirtual 49, 3) := by decide +kernel
theorem dX3_setCoefficient_53 : decode cX3_setCoefficient 53 = .ok (.aload_n 0, 1) := by decide +kernel
theorem dX3_setCoefficient_54 : decode cX3_setCoefficient 54 = .ok (.getfield 13, 3) := by decide +kernel
theorem dX3_setCoefficient_57 : decode cX3_setCoefficient 57 = .ok (.bipush 8, 2) := by decide +kernel
theorem dX3_setCoefficient_59 : decode cX3_setCoefficient 59 = .ok (.iload_n 2, 1) := by decide +kernel
theorem dX3_setCoefficient_60 : decode cX3_setCoefficient 60 = .ok (.aload_n 0, 1) := by decide +kernel
theorem dX3_setCoefficient_61 : decode cX3_setCoefficient 61 = .ok (.getfield 13, 3) := by decide +kernel
theorem dX3_setCoefficient_64 : decode cX3_setCoefficient 64 = .ok (.bipush 8, 2) := by decide +kernel
theorem dX3_setCoefficient_66 : decode cX3_setCoefficient 66 = .ok (.iaload, 1) := by decide +kernel
theorem dX3_setCoefficient_67 : decode cX3_setCoefficient 67 = .ok (.if_icmp .le 7, 3) := by decide +kernel
theorem dX3_setCoefficient_70 : decode cX3_setCoefficient 70 = .ok (.iload_n 2, 1) := by decide +kernel
theorem dX3_setCoefficient_71 : decode cX3_setCoefficient 71 = .ok (.goto 10, 3) := by decide +kernel
theorem dX3_setCoefficient_74 : decode cX3_setCoefficient 74 = .ok (.aload_n 0, 1) := by decide +kernel
theorem dX3_setCoefficient_75 : decode cX3_setCoefficient 75 = .ok (.getfield 13, 3) := by decide +kernel
theorem dX3_setCoefficient_78 : decode cX3_setCoefficient 78 = .ok (.bipush 8, 2) := by decide +kernel
theorem dX3_setCoefficient_80 : decode cX3_setCoefficient 80 = .ok (.iaload, 1) := by decide +kernel
theorem dX3_setCoefficient_81 : decode cX3_setCoefficient 81 = .ok (.iastore, 1) := by decide +kernel
theorem dX3_setCoefficient_82 : decode cX3_setCoefficient 82 = .ok (.aload_n 0, 1) := by decide +kernel
theorem dX3_setCoefficient_83 : decode cX3_setCoefficient 83 = .ok (.iload_n 1, 1) := by decide +kernel
theorem dX3_setCoefficient_84 : decode cX3_setCoefficient 84 = .ok (.invokevirtual 85, 3) := by decide +kernel
theorem dX3_setCoefficient_87 : decode cX3_setCoefficient 87 = .ok (.lreturn, 1) := by decide +kernel
set_option maxRecDepth 20000 in
theorem ggX3_coefficient_X3_isSeries : GoodIn wsX3_coefficient wsX3_isSeries := goodIn_r _ [6, 7, 8, 9, 5, 10] (by decide +kernel) (by decide +kernel)
set_option maxRecDepth 20000 in
theorem gX3_coefficient_X3_isSeries : GoodIn wsX3_coefficient (va_wsS RX3 75 yX3_isSeries wsX3_isSeries) := goodIn_app (goodIn_of _ (by decide +kernel)) ggX3_coefficient_X3_isSeries
set_option maxRecDepth 20000 in
theorem ggX3_coefficient_X3_in : GoodIn wsX3_coefficient wsX3_in := goodIn_r _ [10] (by decide +kernel) (by decide +kernel)
set_option maxRecDepth 20000 in
theorem gX3_coefficient_X3_in : GoodIn wsX3_coefficient (va_wsS RX3 39 yX3_in wsX3_in) := goodIn_app (goodIn_of _ (by decide +kernel)) ggX3_coefficient_X3_in
set_option maxRecDepth 20000 in
theorem ggX3_coefficient_X3_of : GoodIn wsX3_coefficient wsX3_of := goodIn_r _ [14, 15, 16, 17, 18, 19, 20, 21, 22, 23] (by decide +kernel) (by decide +kernel)
set_option maxRecDepth 20000 in
theorem gX3_coefficient_X3_of : GoodIn wsX3_coefficient (wsV RX3 53 RX3 yX3_of wsX3_of) := goodIn_app (goodIn_of _ (by decide +kernel)) ggX3_coefficient_X3_of
theorem dX3_coefficient_0 : decode cX3_coefficient 0 = .ok (.iload_n 1, 1) := by decide +kernel
theorem dX3_coefficient_1 : decode cX3_coefficient 1 = .ok (.invokestatic 75, 3) := by decide +kernel
theorem dX3_coefficient_4 : decode cX3_coefficient 4 = .ok (.ifCond .eq 24, 3) := by decide +kernel
theorem dX3_coefficient_7 : decode cX3_coefficient 7 = .ok (.iload_n 2, 1) := by decide +kernel
theorem dX3_coefficient_8 : decode cX3_coefficient 8 = .ok (.i2l, 1) := by decide +kernel
theorem dX3_coefficient_9 : decode cX3_coefficient 9 = .ok (.lconst 0, 1) := by decide +kernel
theorem dX3_coefficient_10 : decode cX3_coefficient 10 = .ok (.ldc2_w 79, 3) := by decide +kernel
theorem dX3_coefficient_13 : decode cX3_coefficient 13 = .ok (.invokestatic 39, 3) := by decide +kernel
theorem dX3_coefficient_16 : decode cX3_coefficient 16 = .ok (.ifCond .eq 12, 3) := by decide +kernel
theorem dX3_coefficient_19 : decode cX3_coefficient 19 = .ok (.aload_n 0, 1) := by decide +kernel
theorem dX3_coefficient_20 : decode cX3_coefficient 20 = .ok (.iload_n 1, 1) := by decide +kernel
theorem dX3_coefficient_21 : decode cX3_coefficient 21 = .ok (.iload_n 2, 1) := by decide +kernel
theorem dX3_coefficient_22 : decode cX3_coefficient 22 = .ok (.invokevirtual 53, 3) := by decide +kernel
theorem dX3_coefficient_25 : decode cX3_coefficient 25 = .ok (.goto 6, 3) := by decide +kernel
theorem dX3_coefficient_28 : decode cX3_coefficient 28 = .ok (.ldc2_w 83, 3) := by decide +kernel
theorem dX3_coefficient_31 : decode cX3_coefficient 31 = .ok (.lreturn, 1) := by decide +kernel
set_option maxRecDepth 20000 in
theorem ggX3_degree_X3_isSeries : GoodIn wsX3_degree wsX3_isSeries := goodIn_r _ [6, 7, 8, 9, 5, 10] (by decide +kernel) (by decide +kernel)
set_option maxRecDepth 20000 in
theorem gX3_degree_X3_isSeries : GoodIn wsX3_degree (va_wsS RX3 75 yX3_isSeries wsX3_isSeries) := goodIn_app (goodIn_of _ (by decide +kernel)) ggX3_degree_X3_isSeries
theorem dX3_degree_0 : decode cX3_degree 0 = .ok (.iload_n 1, 1) := by decide +kernel
theorem dX3_degree_1 : decode cX3_degree 1 = .ok (.invokestatic 75, 3) := by decide +kernel
theorem dX3_degree_4 : decode cX3_degree 4 = .ok (.ifCond .eq 13, 3) := by decide +kernel
theorem dX3_degree_7 : decode cX3_degree 7 = .ok (.aload_n 0, 1) := by decide +kernel
theorem dX3_degree_8 : decode cX3_degree 8 = .ok (.getfield 13, 3) := by decide +kernel
theorem dX3_degree_11 : decode cX3_degree 11 = .ok (.iload_n 1, 1) := by decide +kernel
theorem dX3_degree_12 : decode cX3_degree 12 = .ok (.iaload, 1) := by decide +kernel
theorem dX3_degree_13 : decode cX3_degree 13 = .ok (.i2l, 1) := by decide +kernel
theorem dX3_degree_14 : decode cX3_degree 14 = .ok (.goto 6, 3) := by decide +kernel
theorem dX3_degree_17 : decode cX3_degree 17 = .ok (.ldc2_w 83, 3) := by decide +kernel
theorem dX3_degree_20 : decode cX3_degree 20 = .ok (.lreturn, 1) := by decide +kernel
set_option maxRecDepth 20000 in
theorem ggX3_copy_X3_isSeries : GoodIn wsX3_copy wsX3_isSeries := goodIn_r _ [6, 7, 8, 9, 5, 10] (by decide +kernel) (by decide +kernel)
set_option maxRecDepth 20000 in
theorem gX3_copy_X3_isSeries : GoodIn wsX3_copy (va_wsS RX3 75 yX3_isSeries wsX3_isSeries) := goodIn_app (goodIn_of _ (by decide +kernel)) ggX3_copy_X3_isSeries
set_option maxRecDepth 20000 in
theorem ggX3_copy_X3_copies : GoodIn wsX3_copy wsX3_copies := goodIn_r _ [14, 2, 15, 16, 17, 5, 18, 19, 20, 21, 22, 23, 24, 25, 26, 27, 28, 29, 30, 31] (by decide +kernel) (by decide +kernel)
set_option maxRecDepth 20000 in
theorem gX3_copy_X3_copies : GoodIn wsX3_copy (wsV RX3 71 RX3 yX3_copies wsX3_copies) := goodIn_app (goodIn_of _ (by decide +kernel)) ggX3_copy_X3_copies
theorem dX3_copy_0 : decode cX3_copy 0 = .ok (.iload_n 1, 1) := by decide +kernel
theorem dX3_copy_1 : decode cX3_copy 1 = .ok (.invokestatic 75, 3) := by decide +kernel
theorem dX3_copy_4 : decode cX3_copy 4 = .ok (.ifCond .eq 10, 3) := by decide +kernel
theorem dX3_copy_7 : decode cX3_copy 7 = .ok (.iload_n 2, 1) := by decide +kernel
theorem dX3_copy_8 : decode cX3_copy 8 = .ok (.invokestatic 75, 3) := by decide +kernel
theorem dX3_copy_11 : decode cX3_copy 11 = .ok (.ifCond .ne 7, 3) := by decide +kernel
theorem dX3_copy_14 : decode cX3_copy 14 = .ok (.ldc2_w 83, 3) := by decide +kernel
theorem dX3_copy_17 : decode cX3_copy 17 = .ok (.lreturn, 1) := by decide +kernel
theorem dX3_copy_18 : decode cX3_copy 18 = .ok (.aload_n 0, 1) := by decide +kernel
theorem dX3_copy_19 : decode cX3_copy 19 = .ok (.iload_n 1, 1) := by decide +kernel
theorem dX3_copy_20 : decode cX3_copy 20 = .ok (.iload_n 2, 1) := by decide +kernel
theorem dX3_copy_21 : decode cX3_copy 21 = .ok (.invokevirtual 71, 3) := by decide +kernel
theorem dX3_copy_24 : decode cX3_copy 24 = .ok (.aload_n 0, 1) := by decide +kernel
theorem dX3_copy_25 : decode cX3_copy 25 = .ok (.getfield 13, 3) := by decide +kernel
theorem dX3_copy_28 : decode cX3_copy 28 = .ok (.iload_n 2, 1) := by decide +kernel
theorem dX3_copy_29 : decode cX3_copy 29 = .ok (.iaload, 1) := by decide +kernel
theorem dX3_copy_30 : decode cX3_copy 30 = .ok (.i2l, 1) := by decide +kernel
theorem dX3_copy_31 : decode cX3_copy 31 = .ok (.lreturn, 1) := by decide +kernel
set_option maxRecDepth 20000 in
theorem ggX3_valueAt_X3_of : GoodIn wsX3_valueAt wsX3_of := goodIn_r _ [8, 9, 13, 14, 15, 16, 17, 18, 19, 20] (by decide +kernel) (by decide +kernel)
set_option maxRecDepth 20000 in
theorem gX3_valueAt_X3_of : GoodIn wsX3_valueAt (wsV RX3 53 RX3 yX3_of wsX3_of) := goodIn_app (goodIn_of _ (by decide +kernel)) ggX3_valueAt_X3_of
set_option maxRecDepth 20000 in
theorem ggX3_valueAt_X3_rounded : GoodIn wsX3_valueAt wsX3_rounded := goodIn_r _ [12, 2] (by decide +kernel) (by decide +kernel)
set_option maxRecDepth 20000 in
theorem gX3_valueAt_X3_rounded : GoodIn wsX3_valueAt (va_wsS RX3 88 yX3_rounded wsX3_rounded) := goodIn_app (goodIn_of _ (by decide +kernel)) ggX3_valueAt_X3_rounded
theorem dX3_valueAt_0 : decode cX3_valueAt 0 = .ok (.lconst 0, 1) := by decide +kernel
theorem dX3_valueAt_1 : decode cX3_valueAt 1 = .ok (.lstore 4, 2) := by decide +kernel
theorem dX3_valueAt_3 : decode cX3_valueAt 3 = .ok (.lconst 0, 1) := by decide +kernel
theorem dX3_valueAt_4 : decode cX3_valueAt 4 = .ok (.lstore 6, 2) := by decide +kernel
theorem dX3_valueAt_6 : decode cX3_valueAt 6 = .ok (.aload_n 0, 1) := by decide +kernel
theorem dX3_valueAt_7 : decode cX3_valueAt 7 = .ok (.getfield 13, 3) := by decide +kernel
theorem dX3_valueAt_10 : decode cX3_valueAt 10 = .ok (.iload_n 1, 1) := by decide +kernel
theorem dX3_valueAt_11 : decode cX3_valueAt 11 = .ok (.iaload, 1) := by decide +kernel
theorem dX3_valueAt_12 : decode cX3_valueAt 12 = .ok (.istore 8, 2) := by decide +kernel
theorem dX3_valueAt_14 : decode cX3_valueAt 14 = .ok (.iload 8, 2) := by decide +kernel
theorem dX3_valueAt_16 : decode cX3_valueAt 16 = .ok (.ifCond .le 44, 3) := by decide +kernel
theorem dX3_valueAt_19 : decode cX3_valueAt 19 = .ok (.aload_n 0, 1) := by decide +kernel
theorem dX3_valueAt_20 : decode cX3_valueAt 20 = .ok (.iload_n 1, 1) := by decide +kernel
theorem dX3_valueAt_21 : decode cX3_valueAt 21 = .ok (.iload 8, 2) := by decide +kernel
theorem dX3_valueAt_23 : decode cX3_valueAt 23 = .ok (.invokevirtual 53, 3) := by decide +kernel
theorem dX3_valueAt_26 : decode cX3_valueAt 26 = .ok (.ldc2_w 47, 3) := by decide +kernel
theorem dX3_valueAt_29 : decode cX3_valueAt 29 = .ok (.lload_n 2, 1) := by decide +kernel
theorem dX3_valueAt_30 : decode cX3_valueAt 30 = .ok (.lmul, 1) := by decide +kernel
theorem dX3_valueAt_31 : decode cX3_valueAt 31 = .ok (.lload 4, 2) := by decide +kernel
theorem dX3_valueAt_33 : decode cX3_valueAt 33 = .ok (.lmul, 1) := by decide +kernel
theorem dX3_valueAt_34 : decode cX3_valueAt 34 = .ok (.ldc2_w 45, 3) := by decide +kernel
theorem dX3_valueAt_37 : decode cX3_valueAt 37 = .ok (.invokestatic 88, 3) := by decide +kernel
theorem dX3_valueAt_40 : decode cX3_valueAt 40 = .ok (.ladd, 1) := by decide +kernel
theorem dX3_valueAt_41 : decode cX3_valueAt 41 = .ok (.lload 6, 2) := by decide +kernel
theorem dX3_valueAt_43 : decode cX3_valueAt 43 = .ok (.lsub, 1) := by decide +kernel
theorem dX3_valueAt_44 : decode cX3_valueAt 44 = .ok (.lstore 9, 2) := by decide +kernel
theorem dX3_valueAt_46 : decode cX3_valueAt 46 = .ok (.lload 4, 2) := by decide +kernel
theorem dX3_valueAt_48 : decode cX3_valueAt 48 = .ok (.lstore 6, 2) := by decide +kernel
theorem dX3_valueAt_50 : decode cX3_valueAt 50 = .ok (.lload 9, 2) := by decide +kernel
theorem dX3_valueAt_52 : decode cX3_valueAt 52 = .ok (.lstore 4, 2) := by decide +kernel
theorem dX3_valueAt_54 : decode cX3_valueAt 54 = .ok (.iinc 8 (-1), 3) := by decide +kernel
theorem dX3_valueAt_57 : decode cX3_valueAt 57 = .ok (.goto (-43), 3) := by decide +kernel
theorem dX3_valueAt_60 : decode cX3_valueAt 60 = .ok (.aload_n 0, 1) := by decide +kernel
theorem dX3_valueAt_61 : decode cX3_valueAt 61 = .ok (.iload_n 1, 1) := by decide +kernel
theorem dX3_valueAt_62 : decode cX3_valueAt 62 = .ok (.iconst 0, 1) := by decide +kernel
theorem dX3_valueAt_63 : decode cX3_valueAt 63 = .ok (.invokevirtual 53, 3) := by decide +kernel
theorem dX3_valueAt_66 : decode cX3_valueAt 66 = .ok (.lload_n 2, 1) := by decide +kernel
theorem dX3_valueAt_67 : decode cX3_valueAt 67 = .ok (.lload 4, 2) := by decide +kernel
theorem dX3_valueAt_69 : decode cX3_valueAt 69 = .ok (.lmul, 1) := by decide +kernel
theorem dX3_valueAt_70 : decode cX3_valueAt 70 = .ok (.ldc2_w 45, 3) := by decide +kernel
theorem dX3_valueAt_73 : decode cX3_valueAt 73 = .ok (.invokestatic 88, 3) := by decide +kernel
theorem dX3_valueAt_76 : decode cX3_valueAt 76 = .ok (.ladd, 1) := by decide +kernel
theorem dX3_valueAt_77 : decode cX3_valueAt 77 = .ok (.lload 6, 2) := by decide +kernel
theorem dX3_valueAt_79 : decode cX3_valueAt 79 = .ok (.lsub, 1) := by decide +kernel
theorem dX3_valueAt_80 : decode cX3_valueAt 80 = .ok (.lreturn, 1) := by decide +kernel
set_option maxRecDepth 20000 in
theorem ggX3_value_X3_isSeries : GoodIn wsX3_value wsX3_isSeries := goodIn_r _ [5, 6, 7, 8, 4, 9] (by decide +kernel) (by decide +kernel)
set_option maxRecDepth 20000 in
theorem gX3_value_X3_isSeries : GoodIn wsX3_value (va_wsS RX3 75 yX3_isSeries wsX3_isSeries) := goodIn_app (goodIn_of _ (by decide +kernel)) ggX3_value_X3_isSeries
set_option maxRecDepth 20000 in
theorem ggX3_value_X3_isPoint : GoodIn wsX3_value wsX3_isPoint := goodIn_r _ [12, 13, 14, 7, 8, 4, 9] (by decide +kernel) (by decide +kernel)
set_option maxRecDepth 20000 in
theorem gX3_value_X3_isPoint : GoodIn wsX3_value (va_wsS RX3 92 yX3_isPoint wsX3_isPoint) := goodIn_app (goodIn_of _ (by decide +kernel)) ggX3_value_X3_isPoint
set_option maxRecDepth 20000 in
theorem ggX3_value_X3_valueAt : GoodIn wsX3_value wsX3_valueAt := goodIn_r _ [18, 19, 20, 14, 21, 22, 23, 4, 24, 25, 26, 27, 28, 29, 30, 31, 32, 33, 34, 35, 36] (by decide +kernel) (by decide +kernel)
set_option maxRecDepth 20000 in
theorem gX3_value_X3_valueAt : GoodIn wsX3_value (wsV RX3 95 RX3 yX3_valueAt wsX3_valueAt) := goodIn_app (goodIn_of _ (by decide +kernel)) ggX3_value_X3_valueAt
theorem dX3_value_0 : decode cX3_value 0 = .ok (.iload_n 1, 1) := by decide +kernel
theorem dX3_value_1 : decode cX3_value 1 = .ok (.invokestatic 75, 3) := by decide +kernel
theorem dX3_value_4 : decode cX3_value 4 = .ok (.ifCond .eq 20, 3) := by decide +kernel
theorem dX3_value_7 : decode cX3_value 7 = .ok (.iload_n 2, 1) := by decide +kernel
theorem dX3_value_8 : decode cX3_value 8 = .ok (.invokestatic 92, 3) := by decide +kernel
theorem dX3_value_11 : decode cX3_value 11 = .ok (.ifCond .eq 13, 3) := by decide +kernel
theorem dX3_value_14 : decode cX3_value 14 = .ok (.aload_n 0, 1) := by decide +kernel
theorem dX3_value_15 : decode cX3_value 15 = .ok (.iload_n 1, 1) := by decide +kernel
theorem dX3_value_16 : decode cX3_value 16 = .ok (.iload_n 2, 1) := by decide +kernel
theorem dX3_value_17 : decode cX3_value 17 = .ok (.i2l, 1) := by decide +kernel
theorem dX3_value_18 : decode cX3_value 18 = .ok (.invokevirtual 95, 3) := by decide +kernel
theorem dX3_value_21 : decode cX3_value 21 = .ok (.goto 6, 3) := by decide +kernel
theorem dX3_value_24 : decode cX3_value 24 = .ok (.ldc2_w 83, 3) := by decide +kernel
theorem dX3_value_27 : decode cX3_value 27 = .ok (.lreturn, 1) := by decide +kernel
set_option maxRecDepth 20000 in
theorem ggX3_add_X3_isSeries : GoodIn wsX3_add wsX3_isSeries := goodIn_r _ [7, 8, 9, 10, 6, 11] (by decide +kernel) (by decide +kernel)
set_option maxRecDepth 20000 in
theorem gX3_add_X3_isSeries : GoodIn wsX3_add (va_wsS RX3 75 yX3_isSeries wsX3_isSeries) := goodIn_app (goodIn_of _ (by decide +kernel)) ggX3_add_X3_isSeries
set_option maxRecDepth 20000 in
theorem ggX3_add_X3_in : GoodIn wsX3_add wsX3_in := goodIn_r _ [11] (by decide +kernel) (by decide +kernel)
set_option maxRecDepth 20000 in
theorem gX3_add_X3_in : GoodIn wsX3_add (va_wsS RX3 39 yX3_in wsX3_in) := goodIn_app (goodIn_of _ (by decide +kernel)) ggX3_add_X3_in
set_option maxRecDepth 20000 in
theorem ggX3_add_X3_clears : GoodIn wsX3_add wsX3_clears := goodIn_r _ [15, 16, 17, 18, 19, 6, 20, 21, 44, 45, 46, 47, 48, 49, 50, 51] (by decide +kernel) (by decide +kernel)
set_option maxRecDepth 20000 in
theorem gX3_add_X3_clears : GoodIn wsX3_add (wsV RX3 103 RX3 yX3_clears wsX3_clears) := goodIn_app (goodIn_of _ (by decide +kernel)) ggX3_add_X3_clears
set_option maxRecDepth 20000 in
theorem ggX3_add_X3_of : GoodIn wsX3_add wsX3_of := goodIn_r _ [25, 21, 44, 45, 46, 47, 48, 49, 50, 51] (by decide +kernel) (by decide +kernel)
set_option maxRecDepth 20000 in
theorem gX3_add_X3_of : GoodIn wsX3_add (wsV RX3 53 RX3 yX3_of wsX3_of) := goodIn_app (goodIn_of _ (by decide +kernel)) ggX3_add_X3_of
set_option maxRecDepth 20000 in
theorem ggX3_add_X3_sets : GoodIn wsX3_add wsX3_sets := goodIn_r _ [20, 21, 44, 45, 46, 47, 48, 49, 50, 51] (by decide +kernel) (by decide +kernel)
set_option maxRecDepth 20000 in
theorem gX3_add_X3_sets : GoodIn wsX3_add (wsV RX3 49 RX3 yX3_sets wsX3_sets) := goodIn_app (goodIn_of _ (by decide +kernel)) ggX3_add_X3_sets
set_option maxRecDepth 20000 in
theorem ggX3_add_X3_gives : GoodIn wsX3_add wsX3_gives := goodIn_r _ [29, 16, 30, 31, 32, 6, 33, 34, 35, 36, 22, 23, 24, 25, 21, 37, 38, 39, 40, 41, 42, 43, 17, 18, 19, 20, 44, 45, 46, 47, 48, 49, 50, 51] (by decide +kernel) (by decide +kernel)
set_option maxRecDepth 20000 in
theorem gX3_add_X3_gives : GoodIn wsX3_add (wsV RX3 85 RX3 yX3_gives wsX3_gives) := goodIn_app (goodIn_of _ (by decide +kernel)) ggX3_add_X3_gives
theorem dX3_add_0 : decode cX3_add 0 = .ok (.iload_n 1, 1) := by decide +kernel
theorem dX3_add_1 : decode cX3_add 1 = .ok (.invokestatic 75, 3) := by decide +kernel
theorem dX3_add_4 : decode cX3_add 4 = .ok (.ifCond .eq 47, 3) := by decide +kernel
theorem dX3_add_7 : decode cX3_add 7 = .ok (.iload_n 2, 1) := by decide +kernel
theorem dX3_add_8 : decode cX3_add 8 = .ok (.i2l, 1) := by decide +kernel
theorem dX3_add_9 : decode cX3_add 9 = .ok (.ldc2_w 99, 3) := by decide +kernel
theorem dX3_add_12 : decode cX3_add 12 = .ok (.ldc2_w 101, 3) := by decide +kernel
theorem dX3_add_15 : decode cX3_add 15 = .ok (.invokestatic 39, 3) := by decide +kernel
theorem dX3_add_18 : decode cX3_add 18 = .ok (.ifCond .eq 33, 3) := by decide +kernel
theorem dX3_add_21 : decode cX3_add 21 = .ok (.iload_n 3, 1) := by decide +kernel
theorem dX3_add_22 : decode cX3_add 22 = .ok (.invokestatic 75, 3) := by decide +kernel
theorem dX3_add_25 : decode cX3_add 25 = .ok (.ifCond .eq 26, 3) := by decide +kernel
theorem dX3_add_28 : decode cX3_add 28 = .ok (.iload 4, 2) := by decide +kernel
theorem dX3_add_30 : decode cX3_add 30 = .ok (.i2l, 1) := by decide +kernel
theorem dX3_add_31 : decode cX3_add 31 = .ok (.ldc2_w 99, 3) := by decide +kernel
theorem dX3_add_34 : decode cX3_add 34 = .ok (.ldc2_w 101, 3) := by decide +kernel
theorem dX3_add_37 : decode cX3_add 37 = .ok (.invokestatic 39, 3) := by decide +kernel
theorem dX3_add_40 : decode cX3_add 40 = .ok (.ifCond .eq 11, 3) := by decide +kernel
theorem dX3_add_43 : decode cX3_add 43 = .ok (.iload 5, 2) := by decide +kernel
theorem dX3_add_45 : decode cX3_add 45 = .ok (.invokestatic 75, 3) := by decide +kernel
theorem dX3_add_48 : decode cX3_add 48 = .ok (.ifCond .ne 7, 3) := by decide +kernel
theorem dX3_add_51 : decode cX3_add 51 = .ok (.ldc2_w 83, 3) := by decide +kernel
theorem dX3_add_54 : decode cX3_add 54 = .ok (.lreturn, 1) := by decide +kernel
theorem dX3_add_55 : decode cX3_add 55 = .ok (.aload_n 0, 1) := by decide +kernel
theorem dX3_add_56 : decode cX3_add 56 = .ok (.bipush 8, 2) := by decide +kernel
theorem dX3_add_58 : decode cX3_add 58 = .ok (.bipush 24, 2) := by decide +kernel
theorem dX3_add_60 : decode cX3_add 60 = .ok (.invokevirtual 103, 3) := by decide +kernel
theorem dX3_add_63 : decode cX3_add 63 = .ok (.iconst 0, 1) := by decide +kernel
theorem dX3_add_64 : decode cX3_add 64 = .ok (.istore 6, 2) := by decide +kernel
theorem dX3_add_66 : decode cX3_add 66 = .ok (.iload 6, 2) := by decide +kernel
theorem dX3_add_68 : decode cX3_add 68 = .ok (.bipush 24, 2) := by decide +kernel
theorem dX3_add_70 : decode cX3_add 70 = .ok (.if_icmp .gt 39, 3) := by decide +kernel
theorem dX3_add_73 : decode cX3_add 73 = .ok (.aload_n 0, 1) := by decide +kernel
theorem dX3_add_74 : decode cX3_add 74 = .ok (.bipush 8, 2) := by decide +kernel
theorem dX3_add_76 : decode cX3_add 76 = .ok (.iload 6, 2) := by decide +kernel
theorem dX3_add_78 : decode cX3_add 78 = .ok (.iload_n 2, 1) := by decide +kernel
theorem dX3_add_79 : decode cX3_add 79 = .ok (.i2l, 1) := by decide +kernel
theorem dX3_add_80 : decode cX3_add 80 = .ok (.aload_n 0, 1) := by decide +kernel
theorem dX3_add_81 : decode cX3_add 81 = .ok (.iload_n 1, 1) := by decide +kernel
theorem dX3_add_82 : decode cX3_add 82 = .ok (.iload 6, 2) := by decide +kernel
theorem dX3_add_84 : decode cX3_add 84 = .ok (.invokevirtual 53, 3) := by decide +kernel
theorem dX3_add_87 : decode cX3_add 87 = .ok (.lmul, 1) := by decide +kernel
theorem dX3_add_88 : decode cX3_add 88 = .ok (.iload 4, 2) := by decide +kernel
theorem dX3_add_90 : decode cX3_add 90 = .ok (.i2l, 1) := by decide +kernel
theorem dX3_add_91 : decode cX3_add 91 = .ok (.aload_n 0, 1) := by decide +kernel
theorem dX3_add_92 : decode cX3_add 92 = .ok (.iload_n 3, 1) := by decide +kernel
theorem dX3_add_93 : decode cX3_add 93 = .ok (.iload 6, 2) := by decide +kernel
theorem dX3_add_95 : decode cX3_add 95 = .ok (.invokevirtual 53, 3) := by decide +kernel
theorem dX3_add_98 : decode cX3_add 98 = .ok (.lmul, 1) := by decide +kernel
theorem dX3_add_99 : decode cX3_add 99 = .ok (.ladd, 1) := by decide +kernel
theorem dX3_add_100 : decode cX3_add 100 = .ok (.invokevirtual 49, 3) := by decide +kernel
theorem dX3_add_103 : decode cX3_add 103 = .ok (.iinc 6 1, 3) := by decide +kernel
theorem dX3_add_106 : decode cX3_add 106 = .ok (.goto (-40), 3) := by decide +kernel
theorem dX3_add_109 : decode cX3_add 109 = .ok (.aload_n 0, 1) := by decide +kernel
theorem dX3_add_110 : decode cX3_add 110 = .ok (.iload 5, 2) := by decide +kernel
theorem dX3_add_112 : decode cX3_add 112 = .ok (.invokevirtual 85, 3) := by decide +kernel
theorem dX3_add_115 : decode cX3_add 115 = .ok (.lreturn, 1) := by decide +kernel
set_option maxRecDepth 20000 in
theorem ggX3_multiplies_X3_clears : GoodIn wsX3_multiplies wsX3_clears := goodIn_r _ [7, 1, 8, 9, 10, 6, 11, 12, 31, 32, 33, 34, 35, 36, 37, 38] (by decide +kernel) (by decide +kernel)
set_option maxRecDepth 20000 in
theorem gX3_multiplies_X3_clears : GoodIn wsX3_multiplies (wsV RX3 103 RX3 yX3_clears wsX3_clears) := goodIn_app (goodIn_of _ (by decide +kernel)) ggX3_multiplies_X3_clears
set_option maxRecDepth 20000 in
theorem ggX3_multiplies_X3_of : GoodIn wsX3_multiplies wsX3_of := goodIn_r _ [16, 12, 31, 32, 33, 34, 35, 36, 37, 38] (by decide +kernel) (by decide +kernel)
set_option maxRecDepth 20000 in
theorem gX3_multiplies_X3_of : GoodIn wsX3_multiplies (wsV RX3 53 RX3 yX3_of wsX3_of) := goodIn_app (goodIn_of _ (by decide +kernel)) ggX3_multiplies_X3_of
set_option maxRecDepth 20000 in
theorem ggX3_multiplies_X3_rounded : GoodIn wsX3_multiplies wsX3_rounded := goodIn_r _ [19, 20] (by decide +kernel) (by decide +kernel)
set_option maxRecDepth 20000 in
theorem gX3_multiplies_X3_rounded : GoodIn wsX3_multiplies (va_wsS RX3 88 yX3_rounded wsX3_rounded) := goodIn_app (goodIn_of _ (by decide +kernel)) ggX3_multiplies_X3_rounded
set_option maxRecDepth 20000 in
theorem ggX3_multiplies_X3_sets : GoodIn wsX3_multiplies wsX3_sets := goodIn_r _ [11, 12, 31, 32, 33, 34, 35, 36, 37, 38] (by decide +kernel) (by decide +kernel)
set_option maxRecDepth 20000 in
theorem gX3_multiplies_X3_sets : GoodIn wsX3_multiplies (wsV RX3 49 RX3 yX3_sets wsX3_sets) := goodIn_app (goodIn_of _ (by decide +kernel)) ggX3_multiplies_X3_sets
set_option maxRecDepth 20000 in
theorem ggX3_multiplies_X3_trims : GoodIn wsX3_multiplies wsX3_trims := goodIn_r _ [24, 1, 25, 26, 27, 13, 14, 15, 6, 16, 12, 28, 29, 30, 31, 32, 33, 34, 35, 36, 37, 38] (by decide +kernel) (by decide +kernel)
set_option maxRecDepth 20000 in
theorem gX3_multiplies_X3_trims : GoodIn wsX3_multiplies (wsV RX3 67 RX3 yX3_trims wsX3_trims) := goodIn_app (goodIn_of _ (by decide +kernel)) ggX3_multiplies_X3_trims
theorem dX3_multiplies_0 : decode cX3_multiplies 0 = .ok (.aload_n 0, 1) := by decide +kernel
theorem dX3_multiplies_1 : decode cX3_multiplies 1 = .ok (.bipush 8, 2) := by decide +kernel
theorem dX3_multiplies_3 : decode cX3_multiplies 3 = .ok (.aload_n 0, 1) := by decide +kernel
theorem dX3_multiplies_4 : decode cX3_multiplies 4 = .ok (.getfield 13, 3) := by decide +kernel
theorem dX3_multiplies_7 : decode cX3_multiplies 7 = .ok (.iload_n 1, 1) := by decide +kernel
theorem dX3_multiplies_8 : decode cX3_multiplies 8 = .ok (.iaload, 1) := by decide +kernel
theorem dX3_multiplies_9 : decode cX3_multiplies 9 = .ok (.aload_n 0, 1) := by decide +kernel
theorem dX3_multiplies_10 : decode cX3_multiplies 10 = .ok (.getfield 13, 3) := by decide +kernel
theorem dX3_multiplies_13 : decode cX3_multiplies 13 = .ok (.iload_n 2, 1) := by decide +kernel
theorem dX3_multiplies_14 : decode cX3_multiplies 14 = .ok (.iaload, 1) := by decide +kernel
theorem dX3_multiplies_15 : decode cX3_multiplies 15 = .ok (.iadd, 1) := by decide +kernel
theorem dX3_multiplies_16 : decode cX3_multiplies 16 = .ok (.invokevirtual 103, 3) := by decide +kernel
theorem dX3_multiplies_19 : decode cX3_multiplies 19 = .ok (.iconst 0, 1) := by decide +kernel
theorem dX3_multiplies_20 : decode cX3_multiplies 20 = .ok (.istore_n 3, 1) := by decide +kernel
theorem dX3_multiplies_21 : decode cX3_multiplies 21 = .ok (.iload_n 3, 1) := by decide +kernel
theorem dX3_multiplies_22 : decode cX3_multiplies 22 = .ok (.aload_n 0, 1) := by decide +kernel
theorem dX3_multiplies_23 : decode cX3_multiplies 23 = .ok (.getfield 13, 3) := by decide +kernel
theorem dX3_multiplies_26 : decode cX3_multiplies 26 = .ok (.bipush 8, 2) := by decide +kernel
theorem dX3_multiplies_28 : decode cX3_multiplies 28 = .ok (.iaload, 1) := by decide +kernel
theorem dX3_multiplies_29 : decode cX3_multiplies 29 = .ok (.if_icmp .gt 142, 3) := by decide +kernel
theorem dX3_multiplies_32 : decode cX3_multiplies 32 = .ok (.lconst 0, 1) := by decide +kernel
theorem dX3_multiplies_33 : decode cX3_multiplies 33 = .ok (.lstore 4, 2) := by decide +kernel
theorem dX3_multiplies_35 : decode cX3_multiplies 35 = .ok (.iconst 0, 1) := by decide +kernel
theorem dX3_multiplies_36 : decode cX3_multiplies 36 = .ok (.istore 6, 2) := by decide +kernel
theorem dX3_multiplies_38 : decode cX3_multiplies 38 = .ok (.iload 6, 2) := by decide +kernel
theorem dX3_multiplies_40 : decode cX3_multiplies 40 = .ok (.aload_n 0, 1) := by decide +kernel
theorem dX3_multiplies_41 : decode cX3_multiplies 41 = .ok (.getfield 13, 3) := by decide +kernel
theorem dX3_multiplies_44 : decode cX3_multiplies 44 = .ok (.iload_n 1, 1) := by decide +kernel
theorem dX3_multiplies_45 : decode cX3_multiplies 45 = .ok (.iaload, 1) := by decide +kernel
theorem dX3_multiplies_46 : decode cX3_multiplies 46 = .ok (.if_icmp .gt 104, 3) := by decide +kernel
theorem dX3_multiplies_49 : decode cX3_multiplies 49 = .ok (.iconst 0, 1) := by decide +kernel
theorem dX3_multiplies_50 : decode cX3_multiplies 50 = .ok (.istore 7, 2) := by decide +kernel
theorem dX3_multiplies_52 : decode cX3_multiplies 52 = .ok (.iload 7, 2) := by decide +kernel
theorem dX3_multiplies_54 : decode cX3_multiplies 54 = .ok (.aload_n 0, 1) := by decide +kernel
theorem dX3_multiplies_55 : decode cX3_multiplies 55 = .ok (.getfield 13, 3) := by decide +kernel
theorem dX3_multiplies_58 : decode cX3_multiplies 58 = .ok (.iload_n 2, 1) := by decide +kernel
theorem dX3_multiplies_59 : decode cX3_multiplies 59 = .ok (.iaload, 1) := by decide +kernel
theorem dX3_multiplies_60 : decode cX3_multiplies 60 = .ok (.if_icmp .gt 84, 3) := by decide +kernel
theorem dX3_multiplies_63 : decode cX3_multiplies 63 = .ok (.lload 4, 2) := by decide +kernel
theorem dX3_multiplies_65 : decode cX3_multiplies 65 = .ok (.iload 6, 2) := by decide +kernel
theorem dX3_multiplies_67 : decode cX3_multiplies 67 = .ok (.iload 7, 2) := by decide +kernel
theorem dX3_multiplies_69 : decode cX3_multiplies 69 = .ok (.iadd, 1) := by decide +kernel
theorem dX3_multiplies_70 : decode cX3_multiplies 70 = .ok (.iload_n 3, 1) := by decide +kernel
theorem dX3_multiplies_71 : decode cX3_multiplies 71 = .ok (.if_icmp .ne 21, 3) := by decide +kernel
theorem dX3_multiplies_74 : decode cX3_multiplies 74 = .ok (.aload_n 0, 1) := by decide +kernel
theorem dX3_multiplies_75 : decode cX3_multiplies 75 = .ok (.iload_n 1, 1) := by decide +kernel
theorem dX3_multiplies_76 : decode cX3_multiplies 76 = .ok (.iload 6, 2) := by decide +kernel
theorem dX3_multiplies_78 : decode cX3_multiplies 78 = .ok (.invokevirtual 53, 3) := by decide +kernel
theorem dX3_multiplies_81 : decode cX3_multiplies 81 = .ok (.aload_n 0, 1) := by decide +kernel
theorem dX3_multiplies_82 : decode cX3_multiplies 82 = .ok (.iload_n 2, 1) := by decide +kernel
theorem dX3_multiplies_83 : decode cX3_multiplies 83 = .ok (.iload 7, 2) := by decide +kernel
theorem dX3_multiplies_85 : decode cX3_multiplies 85 = .ok (.invokevirtual 53, 3) := by decide +kernel
theorem dX3_multiplies_88 : decode cX3_multiplies 88 = .ok (.lmul, 1) := by decide +kernel
theorem dX3_multiplies_89 : decode cX3_multiplies 89 = .ok (.goto 4, 3) := by decide +kernel
theorem dX3_multiplies_92 : decode cX3_multiplies 92 = .ok (.lconst 0, 1) := by decide +kernel
theorem dX3_multiplies_93 : decode cX3_multiplies 93 = .ok (.ladd, 1) := by decide +kernel
theorem dX3_multiplies_94 : decode cX3_multiplies 94 = .ok (.lstore 4, 2) := by decide +kernel
theorem dX3_multiplies_96 : decode cX3_multiplies 96 = .ok (.lload 4, 2) := by decide +kernel
theorem dX3_multiplies_98 : decode cX3_multiplies 98 = .ok (.iload 6, 2) := by decide +kernel
theorem dX3_multiplies_100 : decode cX3_multiplies 100 = .ok (.iload 7, 2) := by decide +kernel
theorem dX3_multiplies_102 : decode cX3_multiplies 102 = .ok (.isub, 1) := by decide +kernel
theorem dX3_multiplies_103 : decode cX3_multiplies 103 = .ok (.iload_n 3, 1) := by decide +kernel
theorem dX3_multiplies_104 : decode cX3_multiplies 104 = .ok (.if_icmp .eq 12, 3) := by decide +kernel
theorem dX3_multiplies_107 : decode cX3_multiplies 107 = .ok (.iload 7, 2) := by decide +kernel
theorem dX3_multiplies_109 : decode cX3_multiplies 109 = .ok (.iload 6, 2) := by decide +kernel
theorem dX3_multiplies_111 : decode cX3_multiplies 111 = .ok (.isub, 1) := by decide +kernel
theorem dX3_multiplies_112 : decode cX3_multiplies 112 = .ok (.iload_n 3, 1) := by decide +kernel
theorem dX3_multiplies_113 : decode cX3_multiplies 113 = .ok (.if_icmp .ne 21, 3) := by decide +kernel
theorem dX3_multiplies_116 : decode cX3_multiplies 116 = .ok (.aload_n 0, 1) := by decide +kernel
theorem dX3_multiplies_117 : decode cX3_multiplies 117 = .ok (.iload_n 1, 1) := by decide +kernel
theorem dX3_multiplies_118 : decode cX3_multiplies 118 = .ok (.iload 6, 2) := by decide +kernel
theorem dX3_multiplies_120 : decode cX3_multiplies 120 = .ok (.invokevirtual 53, 3) := by decide +kernel
theorem dX3_multiplies_123 : decode cX3_multiplies 123 = .ok (.aload_n 0, 1) := by decide +kernel
theorem dX3_multiplies_124 : decode cX3_multiplies 124 = .ok (.iload_n 2, 1) := by decide +kernel
theorem dX3_multiplies_125 : decode cX3_multiplies 125 = .ok (.iload 7, 2) := by decide +kernel
theorem dX3_multiplies_127 : decode cX3_multiplies 127 = .ok (.invokevirtual 53, 3) := by decide +kernel
theorem dX3_multiplies_130 : decode cX3_multiplies 130 = .ok (.lmul, 1) := by decide +kernel
theorem dX3_multiplies_131 : decode cX3_multiplies 131 = .ok (.goto 4, 3) := by decide +kernel
theorem dX3_multiplies_134 : decode cX3_multiplies 134 = .ok (.lconst 0, 1) := by decide +kernel
theorem dX3_multiplies_135 : decode cX3_multiplies 135 = .ok (.ladd, 1) := by decide +kernel
theorem dX3_multiplies_136 : decode cX3_multiplies 136 = .ok (.lstore 4, 2) := by decide +kernel
theorem dX3_multiplies_138 : decode cX3_multiplies 138 = .ok (.iinc 7 1, 3) := by decide +kernel
theorem dX3_multiplies_141 : decode cX3_multiplies 141 = .ok (.goto (-89), 3) := by decide +kernel
theorem dX3_multiplies_144 : decode cX3_multiplies 144 = .ok (.iinc 6 1, 3) := by decide +kernel
theorem dX3_multiplies_147 : decode cX3_multiplies 147 = .ok (.goto (-109), 3) := by decide +kernel
theorem dX3_multiplies_150 : decode cX3_multiplies 150 = .ok (.aload_n 0, 1) := by decide +kernel
theorem dX3_multiplies_151 : decode cX3_multiplies 151 = .ok (.bipush 8, 2) := by decide +kernel
theorem dX3_multiplies_153 : decode cX3_multiplies 153 = .ok (.iload_n 3, 1) := by decide +kernel
theorem dX3_multiplies_154 : decode cX3_multiplies 154 = .ok (.lload 4, 2) := by decide +kernel
theorem dX3_multiplies_156 : decode cX3_multiplies 156 = .ok (.ldc2_w 106, 3) := by decide +kernel
theorem dX3_multiplies_159 : decode cX3_multiplies 159 = .ok (.invokestatic 88, 3) := by decide +kernel
theorem dX3_multiplies_162 : decode cX3_multiplies 162 = .ok (.invokevirtual 49, 3) := by decide +kernel
theorem dX3_multiplies_165 : decode cX3_multiplies 165 = .ok (.iinc 3 1, 3) := by decide +kernel
theorem dX3_multiplies_168 : decode cX3_multiplies 168 = .ok (.goto (-147), 3) := by decide +kernel
theorem dX3_multiplies_171 : decode cX3_multiplies 171 = .ok (.aload_n 0, 1) := by decide +kernel
theorem dX3_multiplies_172 : decode cX3_multiplies 172 = .ok (.bipush 8, 2) := by decide +kernel
theorem dX3_multiplies_174 : decode cX3_multiplies 174 = .ok (.invokevirtual 67, 3) := by decide +kernel
theorem dX3_multiplies_177 : decode cX3_multiplies 177 = .ok (.lreturn, 1) := by decide +kernel
set_option maxRecDepth 20000 in
theorem ggX3_multiply_X3_isSeries : GoodIn wsX3_multiply wsX3_isSeries := goodIn_r _ [5, 6, 7, 8, 4, 9] (by decide +kernel) (by decide +kernel)
set_option maxRecDepth 20000 in
theorem gX3_multiply_X3_isSeries : GoodIn wsX3_multiply (va_wsS RX3 75 yX3_isSeries wsX3_isSeries) := goodIn_app (goodIn_of _ (by decide +kernel)) ggX3_multiply_X3_isSeries
set_option maxRecDepth 20000 in
theorem ggX3_multiply_X3_multiplies : GoodIn wsX3_multiply wsX3_multiplies := goodIn_r _ [13, 14, 15, 16, 17, 18, 4, 19, 20, 21, 22, 23, 24, 25, 26, 27, 28, 29, 30, 31, 32, 33, 34, 35, 36, 37, 38, 39, 40, 41, 42, 51, 52, 53, 54, 55, 56, 57, 58] (by decide +kernel) (by decide +kernel)
set_option maxRecDepth 20000 in
theorem gX3_multiply_X3_multiplies : GoodIn wsX3_multiply (wsV RX3 108 RX3 yX3_multiplies wsX3_multiplies) := goodIn_app (goodIn_of _ (by decide +kernel)) ggX3_multiply_X3_multiplies
set_option maxRecDepth 20000 in
theorem ggX3_multiply_X3_gives : GoodIn wsX3_multiply wsX3_gives := goodIn_r _ [46, 14, 33, 34, 35, 4, 36, 37, 38, 39, 25, 26, 27, 28, 24, 40, 41, 42, 47, 48, 49, 50, 20, 21, 22, 23, 51, 52, 53, 54, 55, 56, 57, 58] (by decide +kernel) (by decide +kernel)
set_option maxRecDepth 20000 in
theorem gX3_multiply_X3_gives : GoodIn wsX3_multiply (wsV RX3 85 RX3 yX3_gives wsX3_gives) := goodIn_app (goodIn_of _ (by decide +kernel)) ggX3_multiply_X3_gives
theorem dX3_multiply_0 : decode cX3_multiply 0 = .ok (.iload_n 1, 1) := by decide +kernel
theorem dX3_multiply_1 : decode cX3_multiply 1 = .ok (.invokestatic 75, 3) := by decide +kernel
theorem dX3_multiply_4 : decode cX3_multiply 4 = .ok (.ifCond .eq 17, 3) := by decide +kernel
theorem dX3_multiply_7 : decode cX3_multiply 7 = .ok (.iload_n 2, 1) := by decide +kernel
theorem dX3_multiply_8 : decode cX3_multiply 8 = .ok (.invokestatic 75, 3) := by decide +kernel
theorem dX3_multiply_11 : decode cX3_multiply 11 = .ok (.ifCond .eq 10, 3) := by decide +kernel
theorem dX3_multiply_14 : decode cX3_multiply 14 = .ok (.iload_n 3, 1) := by decide +kernel
theorem dX3_multiply_15 : decode cX3_multiply 15 = .ok (.invokestatic 75, 3) := by decide +kernel
theorem dX3_multiply_18 : decode cX3_multiply 18 = .ok (.ifCond .ne 7, 3) := by decide +kernel
theorem dX3_multiply_21 : decode cX3_multiply 21 = .ok (.ldc2_w 83, 3) := by decide +kernel
theorem dX3_multiply_24 : decode cX3_multiply 24 = .ok (.lreturn, 1) := by decide +kernel
theorem dX3_multiply_25 : decode cX3_multiply 25 = .ok (.aload_n 0, 1) := by decide +kernel
theorem dX3_multiply_26 : decode cX3_multiply 26 = .ok (.iload_n 1, 1) := by decide +kernel
theorem dX3_multiply_27 : decode cX3_multiply 27 = .ok (.iload_n 2, 1) := by decide +kernel
theorem dX3_multiply_28 : decode cX3_multiply 28 = .ok (.invokevirtual 108, 3) := by decide +kernel
theorem dX3_multiply_31 : decode cX3_multiply 31 = .ok (.lstore 4, 2) := by decide +kernel
theorem dX3_multiply_33 : decode cX3_multiply 33 = .ok (.lload 4, 2) := by decide +kernel
theorem dX3_multiply_35 : decode cX3_multiply 35 = .ok (.lconst 0, 1) := by decide +kernel
theorem dX3_multiply_36 : decode cX3_multiply 36 = .ok (.lcmp, 1) := by decide +kernel
theorem dX3_multiply_37 : decode cX3_multiply 37 = .ok (.ifCond .eq 8, 3) := by decide +kernel
theorem dX3_multiply_40 : decode cX3_multiply 40 = .ok (.lload 4, 2) := by decide +kernel
theorem dX3_multiply_42 : decode cX3_multiply 42 = .ok (.goto 8, 3) := by decide +kernel
theorem dX3_multiply_45 : decode cX3_multiply 45 = .ok (.aload_n 0, 1) := by decide +kernel
theorem dX3_multiply_46 : decode cX3_multiply 46 = .ok (.iload_n 3, 1) := by decide +kernel
theorem dX3_multiply_47 : decode cX3_multiply 47 = .ok (.invokevirtual 85, 3) := by decide +kernel
theorem dX3_multiply_50 : decode cX3_multiply 50 = .ok (.lreturn, 1) := by decide +kernel
set_option maxRecDepth 20000 in
theorem ggX3_derives_X3_clears : GoodIn wsX3_derives wsX3_clears := goodIn_r _ [7, 1, 8, 9, 10, 6, 11, 12, 20, 21, 22, 23, 24, 25, 26, 27] (by decide +kernel) (by decide +kernel)
set_option maxRecDepth 20000 in
theorem gX3_derives_X3_clears : GoodIn wsX3_derives (wsV RX3 103 RX3 yX3_clears wsX3_clears) := goodIn_app (goodIn_of _ (by decide +kernel)) ggX3_derives_X3_clears
set_option maxRecDepth 20000 in
theorem ggX3_derives_X3_of : GoodIn wsX3_derives wsX3_of := goodIn_r _ [16, 12, 20, 21, 22, 23, 24, 25, 26, 27] (by decide +kernel) (by decide +kernel)
set_option maxRecDepth 20000 in
theorem gX3_derives_X3_of : GoodIn wsX3_derives (wsV RX3 53 RX3 yX3_of wsX3_of) := goodIn_app (goodIn_of _ (by decide +kernel)) ggX3_derives_X3_of
set_option maxRecDepth 20000 in
theorem ggX3_derives_X3_sets : GoodIn wsX3_derives wsX3_sets := goodIn_r _ [11, 12, 20, 21, 22, 23, 24, 25, 26, 27] (by decide +kernel) (by decide +kernel)
set_option maxRecDepth 20000 in
theorem gX3_derives_X3_sets : GoodIn wsX3_derives (wsV RX3 49 RX3 yX3_sets wsX3_sets) := goodIn_app (goodIn_of _ (by decide +kernel)) ggX3_derives_X3_sets
set_option maxRecDepth 20000 in
theorem ggX3_derives_X3_rounded : GoodIn wsX3_derives wsX3_rounded := goodIn_r _ [19, 2] (by decide +kernel) (by decide +kernel)
set_option maxRecDepth 20000 in
theorem gX3_derives_X3_rounded : GoodIn wsX3_derives (va_wsS RX3 88 yX3_rounded wsX3_rounded) := goodIn_app (goodIn_of _ (by decide +kernel)) ggX3_derives_X3_rounded
theorem dX3_derives_0 : decode cX3_derives 0 = .ok (.aload_n 0, 1) := by decide +kernel
theorem dX3_derives_1 : decode cX3_derives 1 = .ok (.getfield 13, 3) := by decide +kernel
theorem dX3_derives_4 : decode cX3_derives 4 = .ok (.iload_n 1, 1) := by decide +kernel
theorem dX3_derives_5 : decode cX3_derives 5 = .ok (.iaload, 1) := by decide +kernel
theorem dX3_derives_6 : decode cX3_derives 6 = .ok (.istore_n 2, 1) := by decide +kernel
theorem dX3_derives_7 : decode cX3_derives 7 = .ok (.aload_n 0, 1) := by decide +kernel
theorem dX3_derives_8 : decode cX3_derives 8 = .ok (.bipush 8, 2) := by decide +kernel
theorem dX3_derives_10 : decode cX3_derives 10 = .ok (.iload_n 2, 1) := by decide +kernel
theorem dX3_derives_11 : decode cX3_derives 11 = .ok (.invokevirtual 103, 3) := by decide +kernel
theorem dX3_derives_14 : decode cX3_derives 14 = .ok (.iload_n 2, 1) := by decide +kernel
theorem dX3_derives_15 : decode cX3_derives 15 = .ok (.istore_n 3, 1) := by decide +kernel
theorem dX3_derives_16 : decode cX3_derives 16 = .ok (.iload_n 3, 1) := by decide +kernel
theorem dX3_derives_17 : decode cX3_derives 17 = .ok (.ifCond .le 41, 3) := by decide +kernel
theorem dX3_derives_20 : decode cX3_derives 20 = .ok (.aload_n 0, 1) := by decide +kernel
