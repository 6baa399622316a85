theorem dX2_extremePoint_13 : decode cX2_extremePoint 13 = .ok (.ishl, 1) := by decide +kernel
theorem dX2_extremePoint_14 : decode cX2_extremePoint 14 = .ok (.invokestatic 44, 3) := by decide +kernel
theorem dX2_extremePoint_17 : decode cX2_extremePoint 17 = .ok (.ifCond .eq 7, 3) := by decide +kernel
theorem dX2_extremePoint_20 : decode cX2_extremePoint 20 = .ok (.ldc2_w 50, 3) := by decide +kernel
theorem dX2_extremePoint_23 : decode cX2_extremePoint 23 = .ok (.lreturn, 1) := by decide +kernel
theorem dX2_extremePoint_24 : decode cX2_extremePoint 24 = .ok (.iload_n 1, 1) := by decide +kernel
theorem dX2_extremePoint_25 : decode cX2_extremePoint 25 = .ok (.iload_n 2, 1) := by decide +kernel
theorem dX2_extremePoint_26 : decode cX2_extremePoint 26 = .ok (.invokestatic 141, 3) := by decide +kernel
theorem dX2_extremePoint_29 : decode cX2_extremePoint 29 = .ok (.i2l, 1) := by decide +kernel
theorem dX2_extremePoint_30 : decode cX2_extremePoint 30 = .ok (.lreturn, 1) := by decide +kernel
set_option maxRecDepth 20000 in
theorem ggX2_root_X2_find : GoodIn wsX2_root wsX2_find := goodIn_r _ [8, 9, 87, 88, 89, 90, 91, 92, 93] (by decide +kernel) (by decide +kernel)
set_option maxRecDepth 20000 in
theorem gX2_root_X2_find : GoodIn wsX2_root (wsV RX2 40 RX2 yX2_find wsX2_find) := goodIn_app (goodIn_of _ (by decide +kernel)) ggX2_root_X2_find
set_option maxRecDepth 20000 in
theorem ggX2_root_X0_run : GoodIn wsX2_root wsX0_run := goodIn_r _ [14, 15, 16, 17, 18, 19, 20, 21, 22, 23, 24, 25, 26, 13, 27, 28, 29, 30, 31, 32, 33, 34, 35, 36, 37, 38, 39, 40, 41, 42, 43, 44, 45, 46, 47, 48, 49, 50, 51, 52, 53, 54, 55, 56, 57, 58, 59, 60, 61, 62, 63, 64, 65, 66, 67, 68, 69, 7, 70, 71, 72, 73, 74, 75, 76, 77, 78, 79, 80, 81, 94, 95, 96, 97, 98, 99, 100] (by decide +kernel) (by decide +kernel)
set_option maxRecDepth 20000 in
theorem gX2_root_X0_run : GoodIn wsX2_root (wsV RX2 152 RX0 yX0_run wsX0_run) := goodIn_app (goodIn_of _ (by decide +kernel)) ggX2_root_X0_run
set_option maxRecDepth 20000 in
theorem ggX2_root_X0_count : GoodIn wsX2_root wsX0_count := goodIn_r _ [85, 15, 94, 95, 96, 97, 98] (by decide +kernel) (by decide +kernel)
set_option maxRecDepth 20000 in
theorem gX2_root_X0_count : GoodIn wsX2_root (wsV RX2 155 RX0 yX0_count wsX0_count) := goodIn_app (goodIn_of _ (by decide +kernel)) ggX2_root_X0_count
set_option maxRecDepth 20000 in
theorem ggX2_root_X0_found : GoodIn wsX2_root wsX0_found := goodIn_r _ [81, 77, 94, 95, 96, 97, 98] (by decide +kernel) (by decide +kernel)
set_option maxRecDepth 20000 in
theorem gX2_root_X0_found : GoodIn wsX2_root (wsV RX2 158 RX0 yX0_found wsX0_found) := goodIn_app (goodIn_of _ (by decide +kernel)) ggX2_root_X0_found
theorem dX2_root_0 : decode cX2_root 0 = .ok (.aload_n 0, 1) := by decide +kernel
theorem dX2_root_1 : decode cX2_root 1 = .ok (.iload_n 1, 1) := by decide +kernel
theorem dX2_root_2 : decode cX2_root 2 = .ok (.invokevirtual 40, 3) := by decide +kernel
theorem dX2_root_5 : decode cX2_root 5 = .ok (.astore_n 3, 1) := by decide +kernel
theorem dX2_root_6 : decode cX2_root 6 = .ok (.aload_n 3, 1) := by decide +kernel
theorem dX2_root_7 : decode cX2_root 7 = .ok (.ifnull 8, 3) := by decide +kernel
theorem dX2_root_10 : decode cX2_root 10 = .ok (.iload_n 2, 1) := by decide +kernel
theorem dX2_root_11 : decode cX2_root 11 = .ok (.iconst (-1), 1) := by decide +kernel
theorem dX2_root_12 : decode cX2_root 12 = .ok (.if_icmp .ge 7, 3) := by decide +kernel
theorem dX2_root_15 : decode cX2_root 15 = .ok (.ldc2_w 50, 3) := by decide +kernel
theorem dX2_root_18 : decode cX2_root 18 = .ok (.lreturn, 1) := by decide +kernel
theorem dX2_root_19 : decode cX2_root 19 = .ok (.aload_n 0, 1) := by decide +kernel
theorem dX2_root_20 : decode cX2_root 20 = .ok (.getfield 22, 3) := by decide +kernel
theorem dX2_root_23 : decode cX2_root 23 = .ok (.aload_n 3, 1) := by decide +kernel
theorem dX2_root_24 : decode cX2_root 24 = .ok (.invokevirtual 152, 3) := by decide +kernel
theorem dX2_root_27 : decode cX2_root 27 = .ok (.iload_n 2, 1) := by decide +kernel
theorem dX2_root_28 : decode cX2_root 28 = .ok (.iconst (-1), 1) := by decide +kernel
theorem dX2_root_29 : decode cX2_root 29 = .ok (.if_icmp .ne 12, 3) := by decide +kernel
theorem dX2_root_32 : decode cX2_root 32 = .ok (.aload_n 0, 1) := by decide +kernel
theorem dX2_root_33 : decode cX2_root 33 = .ok (.getfield 22, 3) := by decide +kernel
theorem dX2_root_36 : decode cX2_root 36 = .ok (.invokevirtual 155, 3) := by decide +kernel
theorem dX2_root_39 : decode cX2_root 39 = .ok (.i2l, 1) := by decide +kernel
theorem dX2_root_40 : decode cX2_root 40 = .ok (.lreturn, 1) := by decide +kernel
theorem dX2_root_41 : decode cX2_root 41 = .ok (.iload_n 2, 1) := by decide +kernel
theorem dX2_root_42 : decode cX2_root 42 = .ok (.aload_n 0, 1) := by decide +kernel
theorem dX2_root_43 : decode cX2_root 43 = .ok (.getfield 22, 3) := by decide +kernel
theorem dX2_root_46 : decode cX2_root 46 = .ok (.invokevirtual 155, 3) := by decide +kernel
theorem dX2_root_49 : decode cX2_root 49 = .ok (.if_icmp .ge 14, 3) := by decide +kernel
theorem dX2_root_52 : decode cX2_root 52 = .ok (.aload_n 0, 1) := by decide +kernel
theorem dX2_root_53 : decode cX2_root 53 = .ok (.getfield 22, 3) := by decide +kernel
theorem dX2_root_56 : decode cX2_root 56 = .ok (.iload_n 2, 1) := by decide +kernel
theorem dX2_root_57 : decode cX2_root 57 = .ok (.invokevirtual 158, 3) := by decide +kernel
theorem dX2_root_60 : decode cX2_root 60 = .ok (.goto 6, 3) := by decide +kernel
theorem dX2_root_63 : decode cX2_root 63 = .ok (.ldc2_w 133, 3) := by decide +kernel
theorem dX2_root_66 : decode cX2_root 66 = .ok (.lreturn, 1) := by decide +kernel
set_option maxRecDepth 20000 in
theorem ggX2_greatest_X2_find : GoodIn wsX2_greatest wsX2_find := goodIn_r _ [14, 15, 119, 120, 121, 122, 123, 124, 125] (by decide +kernel) (by decide +kernel)
set_option maxRecDepth 20000 in
theorem gX2_greatest_X2_find : GoodIn wsX2_greatest (wsV RX2 40 RX2 yX2_find wsX2_find) := goodIn_app (goodIn_of _ (by decide +kernel)) ggX2_greatest_X2_find
set_option maxRecDepth 20000 in
theorem ggX2_greatest_X1_becomeDerivative : GoodIn wsX2_greatest wsX1_becomeDerivative := goodIn_r _ [20, 21, 22, 23, 24, 25, 19, 26, 27, 28, 29, 30, 31, 32, 33, 34, 35, 36, 37, 38, 39, 40, 13, 41, 42, 43, 44, 45, 46, 47, 48, 49, 50, 126, 127] (by decide +kernel) (by decide +kernel)
set_option maxRecDepth 20000 in
theorem gX2_greatest_X1_becomeDerivative : GoodIn wsX2_greatest (wsV RX2 89 RX1 yX1_becomeDerivative wsX1_becomeDerivative) := goodIn_app (goodIn_of _ (by decide +kernel)) ggX2_greatest_X1_becomeDerivative
set_option maxRecDepth 20000 in
theorem ggX2_greatest_X1_error : GoodIn wsX2_greatest wsX1_error := goodIn_r _ [54, 21, 55, 27, 56, 57, 8, 58, 59, 60, 126, 127] (by decide +kernel) (by decide +kernel)
set_option maxRecDepth 20000 in
theorem gX2_greatest_X1_error : GoodIn wsX2_greatest (wsV RX2 164 RX1 yX1_error wsX1_error) := goodIn_app (goodIn_of _ (by decide +kernel)) ggX2_greatest_X1_error
set_option maxRecDepth 20000 in
theorem ggX2_greatest_X0_run : GoodIn wsX2_greatest wsX0_run := goodIn_r _ [65, 66, 67, 68, 69, 70, 71, 7, 8, 9, 72, 73, 74, 64, 75, 76, 57, 58, 77, 78, 79, 19, 80, 21, 81, 33, 34, 35, 27, 82, 83, 84, 85, 86, 87, 88, 89, 90, 91, 92, 45, 93, 94, 44, 46, 95, 96, 97, 98, 99, 100, 101, 102, 22, 103, 32, 40, 13, 41, 42, 43, 104, 105, 106, 107, 108, 109, 110, 111, 112, 128, 129, 130, 131, 132, 126, 127] (by decide +kernel) (by decide +kernel)
set_option maxRecDepth 20000 in
theorem gX2_greatest_X0_run : GoodIn wsX2_greatest (wsV RX2 152 RX0 yX0_run wsX0_run) := goodIn_app (goodIn_of _ (by decide +kernel)) ggX2_greatest_X0_run
set_option maxRecDepth 20000 in
theorem ggX2_greatest_X1_valueAt : GoodIn wsX2_greatest wsX1_valueAt := goodIn_r _ [102, 21, 22, 103, 32, 33, 34, 19, 35, 27, 40, 13, 41, 42, 43, 44, 45, 46, 126, 127] (by decide +kernel) (by decide +kernel)
set_option maxRecDepth 20000 in
theorem gX2_greatest_X1_valueAt : GoodIn wsX2_greatest (wsV RX2 73 RX1 yX1_valueAt wsX1_valueAt) := goodIn_app (goodIn_of _ (by decide +kernel)) ggX2_greatest_X1_valueAt
set_option maxRecDepth 20000 in
theorem ggX2_greatest_X0_count : GoodIn wsX2_greatest wsX0_count := goodIn_r _ [117, 66, 128, 129, 130, 131, 132] (by decide +kernel) (by decide +kernel)
set_option maxRecDepth 20000 in
theorem gX2_greatest_X0_count : GoodIn wsX2_greatest (wsV RX2 155 RX0 yX0_count wsX0_count) := goodIn_app (goodIn_of _ (by decide +kernel)) ggX2_greatest_X0_count
set_option maxRecDepth 20000 in
theorem ggX2_greatest_X0_found : GoodIn wsX2_greatest wsX0_found := goodIn_r _ [112, 108, 128, 129, 130, 131, 132] (by decide +kernel) (by decide +kernel)
set_option maxRecDepth 20000 in
theorem gX2_greatest_X0_found : GoodIn wsX2_greatest (wsV RX2 158 RX0 yX0_found wsX0_found) := goodIn_app (goodIn_of _ (by decide +kernel)) ggX2_greatest_X0_found
theorem dX2_greatest_0 : decode cX2_greatest 0 = .ok (.aload_n 0, 1) := by decide +kernel
theorem dX2_greatest_1 : decode cX2_greatest 1 = .ok (.iload_n 1, 1) := by decide +kernel
theorem dX2_greatest_2 : decode cX2_greatest 2 = .ok (.invokevirtual 40, 3) := by decide +kernel
theorem dX2_greatest_5 : decode cX2_greatest 5 = .ok (.astore_n 2, 1) := by decide +kernel
theorem dX2_greatest_6 : decode cX2_greatest 6 = .ok (.aload_n 2, 1) := by decide +kernel
theorem dX2_greatest_7 : decode cX2_greatest 7 = .ok (.ifnonnull 7, 3) := by decide +kernel
theorem dX2_greatest_10 : decode cX2_greatest 10 = .ok (.ldc2_w 50, 3) := by decide +kernel
theorem dX2_greatest_13 : decode cX2_greatest 13 = .ok (.lreturn, 1) := by decide +kernel
theorem dX2_greatest_14 : decode cX2_greatest 14 = .ok (.aload_n 0, 1) := by decide +kernel
theorem dX2_greatest_15 : decode cX2_greatest 15 = .ok (.getfield 27, 3) := by decide +kernel
theorem dX2_greatest_18 : decode cX2_greatest 18 = .ok (.aload_n 2, 1) := by decide +kernel
theorem dX2_greatest_19 : decode cX2_greatest 19 = .ok (.invokevirtual 89, 3) := by decide +kernel
theorem dX2_greatest_22 : decode cX2_greatest 22 = .ok (.aload_n 0, 1) := by decide +kernel
theorem dX2_greatest_23 : decode cX2_greatest 23 = .ok (.getfield 27, 3) := by decide +kernel
theorem dX2_greatest_26 : decode cX2_greatest 26 = .ok (.invokevirtual 164, 3) := by decide +kernel
theorem dX2_greatest_29 : decode cX2_greatest 29 = .ok (.lstore_n 3, 1) := by decide +kernel
theorem dX2_greatest_30 : decode cX2_greatest 30 = .ok (.lload_n 3, 1) := by decide +kernel
theorem dX2_greatest_31 : decode cX2_greatest 31 = .ok (.lconst 0, 1) := by decide +kernel
theorem dX2_greatest_32 : decode cX2_greatest 32 = .ok (.lcmp, 1) := by decide +kernel
theorem dX2_greatest_33 : decode cX2_greatest 33 = .ok (.ifCond .eq 5, 3) := by decide +kernel
theorem dX2_greatest_36 : decode cX2_greatest 36 = .ok (.lload_n 3, 1) := by decide +kernel
theorem dX2_greatest_37 : decode cX2_greatest 37 = .ok (.lreturn, 1) := by decide +kernel
theorem dX2_greatest_38 : decode cX2_greatest 38 = .ok (.aload_n 0, 1) := by decide +kernel
theorem dX2_greatest_39 : decode cX2_greatest 39 = .ok (.getfield 22, 3) := by decide +kernel
theorem dX2_greatest_42 : decode cX2_greatest 42 = .ok (.aload_n 0, 1) := by decide +kernel
theorem dX2_greatest_43 : decode cX2_greatest 43 = .ok (.getfield 27, 3) := by decide +kernel
theorem dX2_greatest_46 : decode cX2_greatest 46 = .ok (.invokevirtual 152, 3) := by decide +kernel
theorem dX2_greatest_49 : decode cX2_greatest 49 = .ok (.aload_n 2, 1) := by decide +kernel
theorem dX2_greatest_50 : decode cX2_greatest 50 = .ok (.ldc2_w 168, 3) := by decide +kernel
theorem dX2_greatest_53 : decode cX2_greatest 53 = .ok (.invokevirtual 73, 3) := by decide +kernel
theorem dX2_greatest_56 : decode cX2_greatest 56 = .ok (.aload_n 2, 1) := by decide +kernel
theorem dX2_greatest_57 : decode cX2_greatest 57 = .ok (.ldc2_w 115, 3) := by decide +kernel
theorem dX2_greatest_60 : decode cX2_greatest 60 = .ok (.invokevirtual 73, 3) := by decide +kernel
theorem dX2_greatest_63 : decode cX2_greatest 63 = .ok (.invokestatic 149, 3) := by decide +kernel
theorem dX2_greatest_66 : decode cX2_greatest 66 = .ok (.lstore 5, 2) := by decide +kernel
theorem dX2_greatest_68 : decode cX2_greatest 68 = .ok (.iconst 0, 1) := by decide +kernel
theorem dX2_greatest_69 : decode cX2_greatest 69 = .ok (.istore 7, 2) := by decide +kernel
theorem dX2_greatest_71 : decode cX2_greatest 71 = .ok (.iload 7, 2) := by decide +kernel
theorem dX2_greatest_73 : decode cX2_greatest 73 = .ok (.aload_n 0, 1) := by decide +kernel
theorem dX2_greatest_74 : decode cX2_greatest 74 = .ok (.getfield 22, 3) := by decide +kernel
theorem dX2_greatest_77 : decode cX2_greatest 77 = .ok (.invokevirtual 155, 3) := by decide +kernel
theorem dX2_greatest_80 : decode cX2_greatest 80 = .ok (.if_icmp .ge 29, 3) := by decide +kernel
theorem dX2_greatest_83 : decode cX2_greatest 83 = .ok (.lload 5, 2) := by decide +kernel
theorem dX2_greatest_85 : decode cX2_greatest 85 = .ok (.aload_n 2, 1) := by decide +kernel
theorem dX2_greatest_86 : decode cX2_greatest 86 = .ok (.aload_n 0, 1) := by decide +kernel
theorem dX2_greatest_87 : decode cX2_greatest 87 = .ok (.getfield 22, 3) := by decide +kernel
theorem dX2_greatest_90 : decode cX2_greatest 90 = .ok (.iload 7, 2) := by decide +kernel
theorem dX2_greatest_92 : decode cX2_greatest 92 = .ok (.invokevirtual 158, 3) := by decide +kernel
theorem dX2_greatest_95 : decode cX2_greatest 95 = .ok (.invokevirtual 73, 3) := by decide +kernel
theorem dX2_greatest_98 : decode cX2_greatest 98 = .ok (.invokestatic 149, 3) := by decide +kernel
theorem dX2_greatest_101 : decode cX2_greatest 101 = .ok (.lstore 5, 2) := by decide +kernel
theorem dX2_greatest_103 : decode cX2_greatest 103 = .ok (.iinc 7 1, 3) := by decide +kernel
theorem dX2_greatest_106 : decode cX2_greatest 106 = .ok (.goto (-35), 3) := by decide +kernel
theorem dX2_greatest_109 : decode cX2_greatest 109 = .ok (.lload 5, 2) := by decide +kernel
theorem dX2_greatest_111 : decode cX2_greatest 111 = .ok (.lreturn, 1) := by decide +kernel
theorem dX2_find_0 : decode cX2_find 0 = .ok (.iload_n 1, 1) := by decide +kernel
theorem dX2_find_1 : decode cX2_find 1 = .ok (.ifCond .lt 21, 3) := by decide +kernel
theorem dX2_find_4 : decode cX2_find 4 = .ok (.iload_n 1, 1) := by decide +kernel
theorem dX2_find_5 : decode cX2_find 5 = .ok (.aload_n 0, 1) := by decide +kernel
theorem dX2_find_6 : decode cX2_find 6 = .ok (.getfield 11, 3) := by decide +kernel
theorem dX2_find_9 : decode cX2_find 9 = .ok (.arraylength, 1) := by decide +kernel
theorem dX2_find_10 : decode cX2_find 10 = .ok (.if_icmp .ge 12, 3) := by decide +kernel
theorem dX2_find_13 : decode cX2_find 13 = .ok (.aload_n 0, 1) := by decide +kernel
theorem dX2_find_14 : decode cX2_find 14 = .ok (.getfield 11, 3) := by decide +kernel
theorem dX2_find_17 : decode cX2_find 17 = .ok (.iload_n 1, 1) := by decide +kernel
theorem dX2_find_18 : decode cX2_find 18 = .ok (.aaload, 1) := by decide +kernel
theorem dX2_find_19 : decode cX2_find 19 = .ok (.goto 4, 3) := by decide +kernel
theorem dX2_find_22 : decode cX2_find 22 = .ok (.aconst_null, 1) := by decide +kernel
theorem dX2_find_23 : decode cX2_find 23 = .ok (.areturn, 1) := by decide +kernel
theorem dX2_isOutside_0 : decode cX2_isOutside 0 = .ok (.iload_n 0, 1) := by decide +kernel
theorem dX2_isOutside_1 : decode cX2_isOutside 1 = .ok (.iload_n 1, 1) := by decide +kernel
theorem dX2_isOutside_2 : decode cX2_isOutside 2 = .ok (.if_icmp .lt 8, 3) := by decide +kernel
theorem dX2_isOutside_5 : decode cX2_isOutside 5 = .ok (.iload_n 0, 1) := by decide +kernel
theorem dX2_isOutside_6 : decode cX2_isOutside 6 = .ok (.iload_n 2, 1) := by decide +kernel
theorem dX2_isOutside_7 : decode cX2_isOutside 7 = .ok (.if_icmp .le 7, 3) := by decide +kernel
theorem dX2_isOutside_10 : decode cX2_isOutside 10 = .ok (.iconst 1, 1) := by decide +kernel
theorem dX2_isOutside_11 : decode cX2_isOutside 11 = .ok (.goto 4, 3) := by decide +kernel
theorem dX2_isOutside_14 : decode cX2_isOutside 14 = .ok (.iconst 0, 1) := by decide +kernel
theorem dX2_isOutside_15 : decode cX2_isOutside 15 = .ok (.ireturn, 1) := by decide +kernel
set_option maxRecDepth 20000 in
theorem ggX2_rounded_J9_floorDiv_f86c9 : GoodIn wsX2_rounded wsJ9_floorDiv_f86c9 := goodIn_r _ [5] (by decide +kernel) (by decide +kernel)
set_option maxRecDepth 20000 in
theorem gX2_rounded_J9_floorDiv_f86c9 : GoodIn wsX2_rounded (va_wsS RX2 170 yJ9_floorDiv_f86c9 wsJ9_floorDiv_f86c9) := goodIn_app (goodIn_of _ (by decide +kernel)) ggX2_rounded_J9_floorDiv_f86c9
theorem dX2_rounded_0 : decode cX2_rounded 0 = .ok (.lload_n 2, 1) := by decide +kernel
theorem dX2_rounded_1 : decode cX2_rounded 1 = .ok (.lconst 0, 1) := by decide +kernel
theorem dX2_rounded_2 : decode cX2_rounded 2 = .ok (.lcmp, 1) := by decide +kernel
theorem dX2_rounded_3 : decode cX2_rounded 3 = .ok (.ifCond .gt 5, 3) := by decide +kernel
theorem dX2_rounded_6 : decode cX2_rounded 6 = .ok (.lconst 0, 1) := by decide +kernel
theorem dX2_rounded_7 : decode cX2_rounded 7 = .ok (.lreturn, 1) := by decide +kernel
theorem dX2_rounded_8 : decode cX2_rounded 8 = .ok (.lload_n 0, 1) := by decide +kernel
theorem dX2_rounded_9 : decode cX2_rounded 9 = .ok (.lload_n 2, 1) := by decide +kernel
theorem dX2_rounded_10 : decode cX2_rounded 10 = .ok (.invokestatic 170, 3) := by decide +kernel
theorem dX2_rounded_13 : decode cX2_rounded 13 = .ok (.lstore 4, 2) := by decide +kernel
theorem dX2_rounded_15 : decode cX2_rounded 15 = .ok (.lload_n 0, 1) := by decide +kernel
theorem dX2_rounded_16 : decode cX2_rounded 16 = .ok (.lload 4, 2) := by decide +kernel
theorem dX2_rounded_18 : decode cX2_rounded 18 = .ok (.lload_n 2, 1) := by decide +kernel
theorem dX2_rounded_19 : decode cX2_rounded 19 = .ok (.lmul, 1) := by decide +kernel
theorem dX2_rounded_20 : decode cX2_rounded 20 = .ok (.lsub, 1) := by decide +kernel
theorem dX2_rounded_21 : decode cX2_rounded 21 = .ok (.lstore 6, 2) := by decide +kernel
theorem dX2_rounded_23 : decode cX2_rounded 23 = .ok (.ldc2_w 117, 3) := by decide +kernel
theorem dX2_rounded_26 : decode cX2_rounded 26 = .ok (.lload 6, 2) := by decide +kernel
theorem dX2_rounded_28 : decode cX2_rounded 28 = .ok (.lmul, 1) := by decide +kernel
theorem dX2_rounded_29 : decode cX2_rounded 29 = .ok (.lload_n 2, 1) := by decide +kernel
theorem dX2_rounded_30 : decode cX2_rounded 30 = .ok (.lcmp, 1) := by decide +kernel
theorem dX2_rounded_31 : decode cX2_rounded 31 = .ok (.ifCond .lt 10, 3) := by decide +kernel
theorem dX2_rounded_34 : decode cX2_rounded 34 = .ok (.lload 4, 2) := by decide +kernel
theorem dX2_rounded_36 : decode cX2_rounded 36 = .ok (.lconst 1, 1) := by decide +kernel
theorem dX2_rounded_37 : decode cX2_rounded 37 = .ok (.ladd, 1) := by decide +kernel
theorem dX2_rounded_38 : decode cX2_rounded 38 = .ok (.goto 5, 3) := by decide +kernel
theorem dX2_rounded_41 : decode cX2_rounded 41 = .ok (.lload 4, 2) := by decide +kernel
theorem dX2_rounded_43 : decode cX2_rounded 43 = .ok (.lreturn, 1) := by decide +kernel
set_option maxRecDepth 20000 in
theorem ggX2_cosine_X2_isOutside : GoodIn wsX2_cosine wsX2_isOutside := goodIn_r _ [5] (by decide +kernel) (by decide +kernel)
set_option maxRecDepth 20000 in
theorem gX2_cosine_X2_isOutside : GoodIn wsX2_cosine (va_wsS RX2 44 yX2_isOutside wsX2_isOutside) := goodIn_app (goodIn_of _ (by decide +kernel)) ggX2_cosine_X2_isOutside
theorem dX2_cosine_0 : decode cX2_cosine 0 = .ok (.iload_n 0, 1) := by decide +kernel
theorem dX2_cosine_1 : decode cX2_cosine 1 = .ok (.bipush 31, 2) := by decide +kernel
theorem dX2_cosine_3 : decode cX2_cosine 3 = .ok (.iand, 1) := by decide +kernel
theorem dX2_cosine_4 : decode cX2_cosine 4 = .ok (.istore_n 1, 1) := by decide +kernel
theorem dX2_cosine_5 : decode cX2_cosine 5 = .ok (.iload_n 1, 1) := by decide +kernel
theorem dX2_cosine_6 : decode cX2_cosine 6 = .ok (.bipush 16, 2) := by decide +kernel
theorem dX2_cosine_8 : decode cX2_cosine 8 = .ok (.if_icmp .le 10, 3) := by decide +kernel
theorem dX2_cosine_11 : decode cX2_cosine 11 = .ok (.bipush 32, 2) := by decide +kernel
theorem dX2_cosine_13 : decode cX2_cosine 13 = .ok (.iload_n 1, 1) := by decide +kernel
theorem dX2_cosine_14 : decode cX2_cosine 14 = .ok (.isub, 1) := by decide +kernel
theorem dX2_cosine_15 : decode cX2_cosine 15 = .ok (.goto 4, 3) := by decide +kernel
theorem dX2_cosine_18 : decode cX2_cosine 18 = .ok (.iload_n 1, 1) := by decide +kernel
theorem dX2_cosine_19 : decode cX2_cosine 19 = .ok (.istore_n 2, 1) := by decide +kernel
theorem dX2_cosine_20 : decode cX2_cosine 20 = .ok (.iload_n 2, 1) := by decide +kernel
theorem dX2_cosine_21 : decode cX2_cosine 21 = .ok (.iconst 0, 1) := by decide +kernel
theorem dX2_cosine_22 : decode cX2_cosine 22 = .ok (.bipush 16, 2) := by decide +kernel
theorem dX2_cosine_24 : decode cX2_cosine 24 = .ok (.invokestatic 44, 3) := by decide +kernel
theorem dX2_cosine_27 : decode cX2_cosine 27 = .ok (.ifCond .eq 5, 3) := by decide +kernel
theorem dX2_cosine_30 : decode cX2_cosine 30 = .ok (.iconst 0, 1) := by decide +kernel
theorem dX2_cosine_31 : decode cX2_cosine 31 = .ok (.ireturn, 1) := by decide +kernel
theorem dX2_cosine_32 : decode cX2_cosine 32 = .ok (.iload_n 2, 1) := by decide +kernel
theorem dX2_cosine_33 : decode cX2_cosine 33 = .ok (.bipush 8, 2) := by decide +kernel
theorem dX2_cosine_35 : decode cX2_cosine 35 = .ok (.if_icmp .gt 11, 3) := by decide +kernel
theorem dX2_cosine_38 : decode cX2_cosine 38 = .ok (.getstatic 173, 3) := by decide +kernel
theorem dX2_cosine_41 : decode cX2_cosine 41 = .ok (.iload_n 2, 1) := by decide +kernel
theorem dX2_cosine_42 : decode cX2_cosine 42 = .ok (.iaload, 1) := by decide +kernel
theorem dX2_cosine_43 : decode cX2_cosine 43 = .ok (.goto 12, 3) := by decide +kernel
theorem dX2_cosine_46 : decode cX2_cosine 46 = .ok (.getstatic 173, 3) := by decide +kernel
theorem dX2_cosine_49 : decode cX2_cosine 49 = .ok (.bipush 16, 2) := by decide +kernel
theorem dX2_cosine_51 : decode cX2_cosine 51 = .ok (.iload_n 2, 1) := by decide +kernel
theorem dX2_cosine_52 : decode cX2_cosine 52 = .ok (.isub, 1) := by decide +kernel
theorem dX2_cosine_53 : decode cX2_cosine 53 = .ok (.iaload, 1) := by decide +kernel
theorem dX2_cosine_54 : decode cX2_cosine 54 = .ok (.ineg, 1) := by decide +kernel
theorem dX2_cosine_55 : decode cX2_cosine 55 = .ok (.ireturn, 1) := by decide +kernel
set_option maxRecDepth 20000 in
theorem ggX2_pointAt_X2_cosine : GoodIn wsX2_pointAt wsX2_cosine := goodIn_r _ [4, 5, 6, 7, 3, 8] (by decide +kernel) (by decide +kernel)
set_option maxRecDepth 20000 in
theorem gX2_pointAt_X2_cosine : GoodIn wsX2_pointAt (va_wsS RX2 177 yX2_cosine wsX2_cosine) := goodIn_app (goodIn_of _ (by decide +kernel)) ggX2_pointAt_X2_cosine
theorem dX2_pointAt_0 : decode cX2_pointAt 0 = .ok (.iload_n 1, 1) := by decide +kernel
theorem dX2_pointAt_1 : decode cX2_pointAt 1 = .ok (.iconst 4, 1) := by decide +kernel
theorem dX2_pointAt_2 : decode cX2_pointAt 2 = .ok (.iload_n 0, 1) := by decide +kernel
theorem dX2_pointAt_3 : decode cX2_pointAt 3 = .ok (.isub, 1) := by decide +kernel
theorem dX2_pointAt_4 : decode cX2_pointAt 4 = .ok (.ishl, 1) := by decide +kernel
theorem dX2_pointAt_5 : decode cX2_pointAt 5 = .ok (.invokestatic 177, 3) := by decide +kernel
theorem dX2_pointAt_8 : decode cX2_pointAt 8 = .ok (.ireturn, 1) := by decide +kernel
set_option maxRecDepth 20000 in
theorem ggX2_cosineSum_X2_pointAt : GoodIn wsX2_cosineSum wsX2_pointAt := goodIn_r _ [5, 6, 7, 4, 8, 9, 10, 11, 12] (by decide +kernel) (by decide +kernel)
set_option maxRecDepth 20000 in
theorem gX2_cosineSum_X2_pointAt : GoodIn wsX2_cosineSum (va_wsS RX2 141 yX2_pointAt wsX2_pointAt) := goodIn_app (goodIn_of _ (by decide +kernel)) ggX2_cosineSum_X2_pointAt
theorem dX2_cosineSum_0 : decode cX2_cosineSum 0 = .ok (.iconst 1, 1) := by decide +kernel
theorem dX2_cosineSum_1 : decode cX2_cosineSum 1 = .ok (.iload_n 1, 1) := by decide +kernel
theorem dX2_cosineSum_2 : decode cX2_cosineSum 2 = .ok (.ishl, 1) := by decide +kernel
theorem dX2_cosineSum_3 : decode cX2_cosineSum 3 = .ok (.istore_n 3, 1) := by decide +kernel
theorem dX2_cosineSum_4 : decode cX2_cosineSum 4 = .ok (.lconst 0, 1) := by decide +kernel
theorem dX2_cosineSum_5 : decode cX2_cosineSum 5 = .ok (.lstore 4, 2) := by decide +kernel
theorem dX2_cosineSum_7 : decode cX2_cosineSum 7 = .ok (.iconst 0, 1) := by decide +kernel
theorem dX2_cosineSum_8 : decode cX2_cosineSum 8 = .ok (.istore 6, 2) := by decide +kernel
theorem dX2_cosineSum_10 : decode cX2_cosineSum 10 = .ok (.iload 6, 2) := by decide +kernel
theorem dX2_cosineSum_12 : decode cX2_cosineSum 12 = .ok (.iload_n 3, 1) := by decide +kernel
theorem dX2_cosineSum_13 : decode cX2_cosineSum 13 = .ok (.if_icmp .gt 63, 3) := by decide +kernel
theorem dX2_cosineSum_16 : decode cX2_cosineSum 16 = .ok (.iload 6, 2) := by decide +kernel
theorem dX2_cosineSum_18 : decode cX2_cosineSum 18 = .ok (.aload_n 0, 1) := by decide +kernel
theorem dX2_cosineSum_19 : decode cX2_cosineSum 19 = .ok (.getfield 15, 3) := by decide +kernel
theorem dX2_cosineSum_22 : decode cX2_cosineSum 22 = .ok (.arraylength, 1) := by decide +kernel
theorem dX2_cosineSum_23 : decode cX2_cosineSum 23 = .ok (.if_icmp .ge 53, 3) := by decide +kernel
theorem dX2_cosineSum_26 : decode cX2_cosineSum 26 = .ok (.iload 6, 2) := by decide +kernel
theorem dX2_cosineSum_28 : decode cX2_cosineSum 28 = .ok (.ifCond .eq 9, 3) := by decide +kernel
theorem dX2_cosineSum_31 : decode cX2_cosineSum 31 = .ok (.iload 6, 2) := by decide +kernel
theorem dX2_cosineSum_33 : decode cX2_cosineSum 33 = .ok (.iload_n 3, 1) := by decide +kernel
theorem dX2_cosineSum_34 : decode cX2_cosineSum 34 = .ok (.if_icmp .ne 7, 3) := by decide +kernel
theorem dX2_cosineSum_37 : decode cX2_cosineSum 37 = .ok (.iconst 1, 1) := by decide +kernel
theorem dX2_cosineSum_38 : decode cX2_cosineSum 38 = .ok (.goto 4, 3) := by decide +kernel
theorem dX2_cosineSum_41 : decode cX2_cosineSum 41 = .ok (.iconst 2, 1) := by decide +kernel
theorem dX2_cosineSum_42 : decode cX2_cosineSum 42 = .ok (.istore 7, 2) := by decide +kernel
theorem dX2_cosineSum_44 : decode cX2_cosineSum 44 = .ok (.lload 4, 2) := by decide +kernel
theorem dX2_cosineSum_46 : decode cX2_cosineSum 46 = .ok (.iload 7, 2) := by decide +kernel
theorem dX2_cosineSum_48 : decode cX2_cosineSum 48 = .ok (.i2l, 1) := by decide +kernel
theorem dX2_cosineSum_49 : decode cX2_cosineSum 49 = .ok (.aload_n 0, 1) := by decide +kernel
theorem dX2_cosineSum_50 : decode cX2_cosineSum 50 = .ok (.getfield 15, 3) := by decide +kernel
theorem dX2_cosineSum_53 : decode cX2_cosineSum 53 = .ok (.iload 6, 2) := by decide +kernel
theorem dX2_cosineSum_55 : decode cX2_cosineSum 55 = .ok (.laload, 1) := by decide +kernel
theorem dX2_cosineSum_56 : decode cX2_cosineSum 56 = .ok (.lmul, 1) := by decide +kernel
theorem dX2_cosineSum_57 : decode cX2_cosineSum 57 = .ok (.iload_n 1, 1) := by decide +kernel
theorem dX2_cosineSum_58 : decode cX2_cosineSum 58 = .ok (.iload 6, 2) := by decide +kernel
theorem dX2_cosineSum_60 : decode cX2_cosineSum 60 = .ok (.iload_n 2, 1) := by decide +kernel
theorem dX2_cosineSum_61 : decode cX2_cosineSum 61 = .ok (.imul, 1) := by decide +kernel
theorem dX2_cosineSum_62 : decode cX2_cosineSum 62 = .ok (.invokestatic 141, 3) := by decide +kernel
theorem dX2_cosineSum_65 : decode cX2_cosineSum 65 = .ok (.i2l, 1) := by decide +kernel
theorem dX2_cosineSum_66 : decode cX2_cosineSum 66 = .ok (.lmul, 1) := by decide +kernel
theorem dX2_cosineSum_67 : decode cX2_cosineSum 67 = .ok (.ladd, 1) := by decide +kernel
theorem dX2_cosineSum_68 : decode cX2_cosineSum 68 = .ok (.lstore 4, 2) := by decide +kernel
theorem dX2_cosineSum_70 : decode cX2_cosineSum 70 = .ok (.iinc 6 1, 3) := by decide +kernel
theorem dX2_cosineSum_73 : decode cX2_cosineSum 73 = .ok (.goto (-63), 3) := by decide +kernel
theorem dX2_cosineSum_76 : decode cX2_cosineSum 76 = .ok (.lload 4, 2) := by decide +kernel
theorem dX2_cosineSum_78 : decode cX2_cosineSum 78 = .ok (.lreturn, 1) := by decide +kernel
set_option maxRecDepth 20000 in
theorem ggX2_keepMade_X1_error : GoodIn wsX2_keepMade wsX1_error := goodIn_r _ [6, 7, 8, 9, 10, 11, 12, 13, 14, 15, 35, 36] (by decide +kernel) (by decide +kernel)
set_option maxRecDepth 20000 in
theorem gX2_keepMade_X1_error : GoodIn wsX2_keepMade (wsV RX2 164 RX1 yX1_error wsX1_error) := goodIn_app (goodIn_of _ (by decide +kernel)) ggX2_keepMade_X1_error
set_option maxRecDepth 20000 in
theorem ggX2_keepMade_X1_take : GoodIn wsX2_keepMade wsX1_take := goodIn_r _ [19, 9, 7, 20, 21, 22, 5, 23, 35, 36] (by decide +kernel) (by decide +kernel)
set_option maxRecDepth 20000 in
theorem gX2_keepMade_X1_take : GoodIn wsX2_keepMade (wsV RX2 67 RX1 yX1_take wsX1_take) := goodIn_app (goodIn_of _ (by decide +kernel)) ggX2_keepMade_X1_take
set_option maxRecDepth 20000 in
theorem ggX2_keepMade_X1_top : GoodIn wsX2_keepMade wsX1_top := goodIn_r _ [27, 7, 35, 36] (by decide +kernel) (by decide +kernel)
set_option maxRecDepth 20000 in
theorem gX2_keepMade_X1_top : GoodIn wsX2_keepMade (wsV RX2 59 RX1 yX1_top wsX1_top) := goodIn_app (goodIn_of _ (by decide +kernel)) ggX2_keepMade_X1_top
theorem dX2_keepMade_0 : decode cX2_keepMade 0 = .ok (.aload_n 0, 1) := by decide +kernel
theorem dX2_keepMade_1 : decode cX2_keepMade 1 = .ok (.getfield 27, 3) := by decide +kernel
theorem dX2_keepMade_4 : decode cX2_keepMade 4 = .ok (.invokevirtual 164, 3) := by decide +kernel
theorem dX2_keepMade_7 : decode cX2_keepMade 7 = .ok (.lstore_n 2, 1) := by decide +kernel
theorem dX2_keepMade_8 : decode cX2_keepMade 8 = .ok (.lload_n 2, 1) := by decide +kernel
theorem dX2_keepMade_9 : decode cX2_keepMade 9 = .ok (.lconst 0, 1) := by decide +kernel
theorem dX2_keepMade_10 : decode cX2_keepMade 10 = .ok (.lcmp, 1) := by decide +kernel
theorem dX2_keepMade_11 : decode cX2_keepMade 11 = .ok (.ifCond .eq 5, 3) := by decide +kernel
theorem dX2_keepMade_14 : decode cX2_keepMade 14 = .ok (.lload_n 2, 1) := by decide +kernel
theorem dX2_keepMade_15 : decode cX2_keepMade 15 = .ok (.lreturn, 1) := by decide +kernel
theorem dX2_keepMade_16 : decode cX2_keepMade 16 = .ok (.aload_n 1, 1) := by decide +kernel
theorem dX2_keepMade_17 : decode cX2_keepMade 17 = .ok (.aload_n 0, 1) := by decide +kernel
theorem dX2_keepMade_18 : decode cX2_keepMade 18 = .ok (.getfield 27, 3) := by decide +kernel
theorem dX2_keepMade_21 : decode cX2_keepMade 21 = .ok (.invokevirtual 67, 3) := by decide +kernel
theorem dX2_keepMade_24 : decode cX2_keepMade 24 = .ok (.aload_n 1, 1) := by decide +kernel
theorem dX2_keepMade_25 : decode cX2_keepMade 25 = .ok (.invokevirtual 59, 3) := by decide +kernel
theorem dX2_keepMade_28 : decode cX2_keepMade 28 = .ok (.i2l, 1) := by decide +kernel
theorem dX2_keepMade_29 : decode cX2_keepMade 29 = .ok (.lreturn, 1) := by decide +kernel
set_option maxRecDepth 20000 in
theorem ggX2_makeComposition_X1_clear : GoodIn wsX2_makeComposition wsX1_clear := goodIn_r _ [8, 9, 10, 11, 12, 13, 14, 82, 83] (by decide +kernel) (by decide +kernel)
set_option maxRecDepth 20000 in
theorem gX2_makeComposition_X1_clear : GoodIn wsX2_makeComposition (wsV RX2 112 RX1 yX1_clear wsX1_clear) := goodIn_app (goodIn_of _ (by decide +kernel)) ggX2_makeComposition_X1_clear
set_option maxRecDepth 20000 in
theorem ggX2_makeComposition_X1_top : GoodIn wsX2_makeComposition wsX1_top := goodIn_r _ [18, 10, 82, 83] (by decide +kernel) (by decide +kernel)
set_option maxRecDepth 20000 in
theorem gX2_makeComposition_X1_top : GoodIn wsX2_makeComposition (wsV RX2 59 RX1 yX1_top wsX1_top) := goodIn_app (goodIn_of _ (by decide +kernel)) ggX2_makeComposition_X1_top
set_option maxRecDepth 20000 in
theorem ggX2_makeComposition_X1_at : GoodIn wsX2_makeComposition wsX1_at := goodIn_r _ [22, 9, 82, 83] (by decide +kernel) (by decide +kernel)
set_option maxRecDepth 20000 in
theorem gX2_makeComposition_X1_at : GoodIn wsX2_makeComposition (wsV RX2 63 RX1 yX1_at wsX1_at) := goodIn_app (goodIn_of _ (by decide +kernel)) ggX2_makeComposition_X1_at
set_option maxRecDepth 20000 in
theorem ggX2_makeComposition_X2_makeStep : GoodIn wsX2_makeComposition wsX2_makeStep := goodIn_r _ [27, 28, 1, 3, 2, 29, 30, 31, 7, 32, 10, 33, 34, 35, 36, 9, 37, 38, 5, 6, 8, 11, 12, 13, 14, 39, 20, 21, 22, 40, 41, 42, 43, 44, 26, 45, 46, 47, 48, 49, 50, 51, 52, 53, 54, 55, 56, 57, 58, 59, 60, 61, 62, 63, 64, 65, 66, 67, 68, 19, 69, 70, 75, 76, 77, 78, 79, 80, 81, 82, 83] (by decide +kernel) (by decide +kernel)
set_option maxRecDepth 20000 in
theorem gX2_makeComposition_X2_makeStep : GoodIn wsX2_makeComposition (wsV RX2 180 RX2 yX2_makeStep wsX2_makeStep) := goodIn_app (goodIn_of _ (by decide +kernel)) ggX2_makeComposition_X2_makeStep
set_option maxRecDepth 20000 in
theorem ggX2_makeComposition_X1_take : GoodIn wsX2_makeComposition wsX1_take := goodIn_r _ [74, 9, 10, 39, 20, 21, 7, 22, 82, 83] (by decide +kernel) (by decide +kernel)
set_option maxRecDepth 20000 in
theorem gX2_makeComposition_X1_take : GoodIn wsX2_makeComposition (wsV RX2 67 RX1 yX1_take wsX1_take) := goodIn_app (goodIn_of _ (by decide +kernel)) ggX2_makeComposition_X1_take
theorem dX2_makeComposition_0 : decode cX2_makeComposition 0 = .ok (.aload_n 0, 1) := by decide +kernel
theorem dX2_makeComposition_1 : decode cX2_makeComposition 1 = .ok (.getfield 34, 3) := by decide +kernel
theorem dX2_makeComposition_4 : decode cX2_makeComposition 4 = .ok (.invokevirtual 112, 3) := by decide +kernel
theorem dX2_makeComposition_7 : decode cX2_makeComposition 7 = .ok (.aload_n 0, 1) := by decide +kernel
theorem dX2_makeComposition_8 : decode cX2_makeComposition 8 = .ok (.getfield 37, 3) := by decide +kernel
theorem dX2_makeComposition_11 : decode cX2_makeComposition 11 = .ok (.invokevirtual 112, 3) := by decide +kernel
theorem dX2_makeComposition_14 : decode cX2_makeComposition 14 = .ok (.aload_n 1, 1) := by decide +kernel
theorem dX2_makeComposition_15 : decode cX2_makeComposition 15 = .ok (.invokevirtual 59, 3) := by decide +kernel
theorem dX2_makeComposition_18 : decode cX2_makeComposition 18 = .ok (.istore_n 3, 1) := by decide +kernel
theorem dX2_makeComposition_19 : decode cX2_makeComposition 19 = .ok (.iload_n 3, 1) := by decide +kernel
theorem dX2_makeComposition_20 : decode cX2_makeComposition 20 = .ok (.iconst 1, 1) := by decide +kernel
theorem dX2_makeComposition_21 : decode cX2_makeComposition 21 = .ok (.if_icmp .lt 54, 3) := by decide +kernel
theorem dX2_makeComposition_24 : decode cX2_makeComposition 24 = .ok (.aload_n 0, 1) := by decide +kernel
theorem dX2_makeComposition_25 : decode cX2_makeComposition 25 = .ok (.aload_n 1, 1) := by decide +kernel
theorem dX2_makeComposition_26 : decode cX2_makeComposition 26 = .ok (.iload_n 3, 1) := by decide +kernel
theorem dX2_makeComposition_27 : decode cX2_makeComposition 27 = .ok (.invokevirtual 63, 3) := by decide +kernel
theorem dX2_makeComposition_30 : decode cX2_makeComposition 30 = .ok (.iconst 2, 1) := by decide +kernel
theorem dX2_makeComposition_31 : decode cX2_makeComposition 31 = .ok (.aload_n 2, 1) := by decide +kernel
theorem dX2_makeComposition_32 : decode cX2_makeComposition 32 = .ok (.invokevirtual 180, 3) := by decide +kernel
theorem dX2_makeComposition_35 : decode cX2_makeComposition 35 = .ok (.lstore 4, 2) := by decide +kernel
theorem dX2_makeComposition_37 : decode cX2_makeComposition 37 = .ok (.lload 4, 2) := by decide +kernel
theorem dX2_makeComposition_39 : decode cX2_makeComposition 39 = .ok (.lconst 0, 1) := by decide +kernel
theorem dX2_makeComposition_40 : decode cX2_makeComposition 40 = .ok (.lcmp, 1) := by decide +kernel
theorem dX2_makeComposition_41 : decode cX2_makeComposition 41 = .ok (.ifCond .eq 6, 3) := by decide +kernel
theorem dX2_makeComposition_44 : decode cX2_makeComposition 44 = .ok (.lload 4, 2) := by decide +kernel
theorem dX2_makeComposition_46 : decode cX2_makeComposition 46 = .ok (.lreturn, 1) := by decide +kernel
theorem dX2_makeComposition_47 : decode cX2_makeComposition 47 = .ok (.aload_n 0, 1) := by decide +kernel
theorem dX2_makeComposition_48 : decode cX2_makeComposition 48 = .ok (.getfield 37, 3) := by decide +kernel
theorem dX2_makeComposition_51 : decode cX2_makeComposition 51 = .ok (.aload_n 0, 1) := by decide +kernel
theorem dX2_makeComposition_52 : decode cX2_makeComposition 52 = .ok (.getfield 34, 3) := by decide +kernel
theorem dX2_makeComposition_55 : decode cX2_makeComposition 55 = .ok (.invokevirtual 67, 3) := by decide +kernel
theorem dX2_makeComposition_58 : decode cX2_makeComposition 58 = .ok (.aload_n 0, 1) := by decide +kernel
theorem dX2_makeComposition_59 : decode cX2_makeComposition 59 = .ok (.getfield 34, 3) := by decide +kernel
theorem dX2_makeComposition_62 : decode cX2_makeComposition 62 = .ok (.aload_n 0, 1) := by decide +kernel
theorem dX2_makeComposition_63 : decode cX2_makeComposition 63 = .ok (.getfield 27, 3) := by decide +kernel
theorem dX2_makeComposition_66 : decode cX2_makeComposition 66 = .ok (.invokevirtual 67, 3) := by decide +kernel
theorem dX2_makeComposition_69 : decode cX2_makeComposition 69 = .ok (.iinc 3 (-1), 3) := by decide +kernel
theorem dX2_makeComposition_72 : decode cX2_makeComposition 72 = .ok (.goto (-53), 3) := by decide +kernel
theorem dX2_makeComposition_75 : decode cX2_makeComposition 75 = .ok (.aload_n 0, 1) := by decide +kernel
theorem dX2_makeComposition_76 : decode cX2_makeComposition 76 = .ok (.aload_n 1, 1) := by decide +kernel
theorem dX2_makeComposition_77 : decode cX2_makeComposition 77 = .ok (.iconst 0, 1) := by decide +kernel
theorem dX2_makeComposition_78 : decode cX2_makeComposition 78 = .ok (.invokevirtual 63, 3) := by decide +kernel
theorem dX2_makeComposition_81 : decode cX2_makeComposition 81 = .ok (.iconst 1, 1) := by decide +kernel
theorem dX2_makeComposition_82 : decode cX2_makeComposition 82 = .ok (.aload_n 2, 1) := by decide +kernel
theorem dX2_makeComposition_83 : decode cX2_makeComposition 83 = .ok (.invokevirtual 180, 3) := by decide +kernel
theorem dX2_makeComposition_86 : decode cX2_makeComposition 86 = .ok (.lreturn, 1) := by decide +kernel
set_option maxRecDepth 20000 in
theorem ggX2_makeStep_X1_becomeProduct : GoodIn wsX2_makeStep wsX1_becomeProduct := goodIn_r _ [9, 10, 11, 12, 13, 14, 15, 16, 17, 18, 19, 8, 20, 21, 22, 23, 24, 25, 26, 27, 28, 29, 30, 31, 32, 33, 34, 35, 36, 37, 38, 39, 40, 41, 42, 43, 44, 69, 70] (by decide +kernel) (by decide +kernel)
set_option maxRecDepth 20000 in
theorem gX2_makeStep_X1_becomeProduct : GoodIn wsX2_makeStep (wsV RX2 85 RX1 yX1_becomeProduct wsX1_becomeProduct) := goodIn_app (goodIn_of _ (by decide +kernel)) ggX2_makeStep_X1_becomeProduct
set_option maxRecDepth 20000 in
theorem ggX2_makeStep_X1_error : GoodIn wsX2_makeStep wsX1_error := goodIn_r _ [48, 10, 49, 15, 50, 51, 13, 52, 53, 54, 69, 70] (by decide +kernel) (by decide +kernel)
set_option maxRecDepth 20000 in
theorem gX2_makeStep_X1_error : GoodIn wsX2_makeStep (wsV RX2 164 RX1 yX1_error wsX1_error) := goodIn_app (goodIn_of _ (by decide +kernel)) ggX2_makeStep_X1_error
set_option maxRecDepth 20000 in
theorem ggX2_makeStep_X1_becomeSum : GoodIn wsX2_makeStep wsX1_becomeSum := goodIn_r _ [58, 15, 25, 26, 27, 8, 28, 41, 42, 43, 44, 10, 69, 70] (by decide +kernel) (by decide +kernel)
set_option maxRecDepth 20000 in
theorem gX2_makeStep_X1_becomeSum : GoodIn wsX2_makeStep (wsV RX2 77 RX1 yX1_becomeSum wsX1_becomeSum) := goodIn_app (goodIn_of _ (by decide +kernel)) ggX2_makeStep_X1_becomeSum
set_option maxRecDepth 20000 in
theorem ggX2_makeStep_X1_at : GoodIn wsX2_makeStep wsX1_at := goodIn_r _ [28, 15, 69, 70] (by decide +kernel) (by decide +kernel)
set_option maxRecDepth 20000 in
theorem gX2_makeStep_X1_at : GoodIn wsX2_makeStep (wsV RX2 63 RX1 yX1_at wsX1_at) := goodIn_app (goodIn_of _ (by decide +kernel)) ggX2_makeStep_X1_at
set_option maxRecDepth 20000 in
theorem ggX2_makeStep_X1_put : GoodIn wsX2_makeStep wsX1_put := goodIn_r _ [32, 15, 69, 70] (by decide +kernel) (by decide +kernel)
set_option maxRecDepth 20000 in
theorem gX2_makeStep_X1_put : GoodIn wsX2_makeStep (wsV RX2 52 RX1 yX1_put wsX1_put) := goodIn_app (goodIn_of _ (by decide +kernel)) ggX2_makeStep_X1_put
set_option maxRecDepth 20000 in
theorem ggX2_makeStep_X1_trim : GoodIn wsX2_makeStep wsX1_trim := goodIn_r _ [44, 10, 15, 69, 70] (by decide +kernel) (by decide +kernel)
set_option maxRecDepth 20000 in
theorem gX2_makeStep_X1_trim : GoodIn wsX2_makeStep (wsV RX2 56 RX1 yX1_trim wsX1_trim) := goodIn_app (goodIn_of _ (by decide +kernel)) ggX2_makeStep_X1_trim
theorem dX2_makeStep_0 : decode cX2_makeStep 0 = .ok (.aload_n 0, 1) := by decide +kernel
theorem dX2_makeStep_1 : decode cX2_makeStep 1 = .ok (.getfield 31, 3) := by decide +kernel
theorem dX2_makeStep_4 : decode cX2_makeStep 4 = .ok (.aload 4, 2) := by decide +kernel
theorem dX2_makeStep_6 : decode cX2_makeStep 6 = .ok (.aload_n 0, 1) := by decide +kernel
theorem dX2_makeStep_7 : decode cX2_makeStep 7 = .ok (.getfield 34, 3) := by decide +kernel
theorem dX2_makeStep_10 : decode cX2_makeStep 10 = .ok (.invokevirtual 85, 3) := by decide +kernel
theorem dX2_makeStep_13 : decode cX2_makeStep 13 = .ok (.aload_n 0, 1) := by decide +kernel
theorem dX2_makeStep_14 : decode cX2_makeStep 14 = .ok (.getfield 31, 3) := by decide +kernel
theorem dX2_makeStep_17 : decode cX2_makeStep 17 = .ok (.invokevirtual 164, 3) := by decide +kernel
theorem dX2_makeStep_20 : decode cX2_makeStep 20 = .ok (.lstore 5, 2) := by decide +kernel
theorem dX2_makeStep_22 : decode cX2_makeStep 22 = .ok (.lload 5, 2) := by decide +kernel
theorem dX2_makeStep_24 : decode cX2_makeStep 24 = .ok (.lconst 0, 1) := by decide +kernel
theorem dX2_makeStep_25 : decode cX2_makeStep 25 = .ok (.lcmp, 1) := by decide +kernel
theorem dX2_makeStep_26 : decode cX2_makeStep 26 = .ok (.ifCond .eq 6, 3) := by decide +kernel
theorem dX2_makeStep_29 : decode cX2_makeStep 29 = .ok (.lload 5, 2) := by decide +kernel
theorem dX2_makeStep_31 : decode cX2_makeStep 31 = .ok (.lreturn, 1) := by decide +kernel
theorem dX2_makeStep_32 : decode cX2_makeStep 32 = .ok (.aload_n 0, 1) := by decide +kernel
theorem dX2_makeStep_33 : decode cX2_makeStep 33 = .ok (.getfield 27, 3) := by decide +kernel
theorem dX2_makeStep_36 : decode cX2_makeStep 36 = .ok (.aload_n 0, 1) := by decide +kernel
theorem dX2_makeStep_37 : decode cX2_makeStep 37 = .ok (.getfield 31, 3) := by decide +kernel
theorem dX2_makeStep_40 : decode cX2_makeStep 40 = .ok (.iload_n 3, 1) := by decide +kernel
theorem dX2_makeStep_41 : decode cX2_makeStep 41 = .ok (.aload_n 0, 1) := by decide +kernel
theorem dX2_makeStep_42 : decode cX2_makeStep 42 = .ok (.getfield 37, 3) := by decide +kernel
theorem dX2_makeStep_45 : decode cX2_makeStep 45 = .ok (.iconst (-1), 1) := by decide +kernel
theorem dX2_makeStep_46 : decode cX2_makeStep 46 = .ok (.invokevirtual 77, 3) := by decide +kernel
theorem dX2_makeStep_49 : decode cX2_makeStep 49 = .ok (.aload_n 0, 1) := by decide +kernel
theorem dX2_makeStep_50 : decode cX2_makeStep 50 = .ok (.getfield 27, 3) := by decide +kernel
theorem dX2_makeStep_53 : decode cX2_makeStep 53 = .ok (.iconst 0, 1) := by decide +kernel
theorem dX2_makeStep_54 : decode cX2_makeStep 54 = .ok (.aload_n 0, 1) := by decide +kernel
theorem dX2_makeStep_55 : decode cX2_makeStep 55 = .ok (.getfield 27, 3) := by decide +kernel
theorem dX2_makeStep_58 : decode cX2_makeStep 58 = .ok (.iconst 0, 1) := by decide +kernel
theorem dX2_makeStep_59 : decode cX2_makeStep 59 = .ok (.invokevirtual 63, 3) := by decide +kernel
theorem dX2_makeStep_62 : decode cX2_makeStep 62 = .ok (.lload_n 1, 1) := by decide +kernel
theorem dX2_makeStep_63 : decode cX2_makeStep 63 = .ok (.ladd, 1) := by decide +kernel
theorem dX2_makeStep_64 : decode cX2_makeStep 64 = .ok (.invokevirtual 52, 3) := by decide +kernel
theorem dX2_makeStep_67 : decode cX2_makeStep 67 = .ok (.aload_n 0, 1) := by decide +kernel
theorem dX2_makeStep_68 : decode cX2_makeStep 68 = .ok (.getfield 27, 3) := by decide +kernel
theorem dX2_makeStep_71 : decode cX2_makeStep 71 = .ok (.invokevirtual 56, 3) := by decide +kernel
theorem dX2_makeStep_74 : decode cX2_makeStep 74 = .ok (.aload_n 0, 1) := by decide +kernel
theorem dX2_makeStep_75 : decode cX2_makeStep 75 = .ok (.getfield 27, 3) := by decide +kernel
theorem dX2_makeStep_78 : decode cX2_makeStep 78 = .ok (.invokevirtual 164, 3) := by decide +kernel
theorem dX2_makeStep_81 : decode cX2_makeStep 81 = .ok (.lreturn, 1) := by decide +kernel
set_option maxRecDepth 20000 in
theorem ggJ9_floorDiv_b2ac5_J9_floorDiv_f86c9 : GoodIn wsJ9_floorDiv_b2ac5 wsJ9_floorDiv_f86c9 := goodIn_r _ [4] (by decide +kernel) (by decide +kernel)
set_option maxRecDepth 20000 in
theorem gJ9_floorDiv_b2ac5_J9_floorDiv_f86c9 : GoodIn wsJ9_floorDiv_b2ac5 (va_wsS RJ9 143 yJ9_floorDiv_f86c9 wsJ9_floorDiv_f86c9) := goodIn_app (goodIn_of _ (by decide +kernel)) ggJ9_floorDiv_b2ac5_J9_floorDiv_f86c9
theorem dJ9_floorDiv_b2ac5_0 : decode cJ9_floorDiv_b2ac5 0 = .ok (.lload_n 0, 1) := by decide +kernel
theorem dJ9_floorDiv_b2ac5_1 : decode cJ9_floorDiv_b2ac5 1 = .ok (.iload_n 2, 1) := by decide +kernel
theorem dJ9_floorDiv_b2ac5_2 : decode cJ9_floorDiv_b2ac5 2 = .ok (.i2l, 1) := by decide +kernel
theorem dJ9_floorDiv_b2ac5_3 : decode cJ9_floorDiv_b2ac5 3 = .ok (.invokestatic 143, 3) := by decide +kernel
theorem dJ9_floorDiv_b2ac5_6 : decode cJ9_floorDiv_b2ac5 6 = .ok (.lreturn, 1) := by decide +kernel
theorem dJ9_floorDiv_f86c9_0 : decode cJ9_floorDiv_f86c9 0 = .ok (.lload_n 0, 1) := by decide +kernel
theorem dJ9_floorDiv_f86c9_1 : decode cJ9_floorDiv_f86c9 1 = .ok (.lload_n 2, 1) := by decide +kernel
theorem dJ9_floorDiv_f86c9_2 : decode cJ9_floorDiv_f86c9 2 = .ok (.ldiv, 1) := by decide +kernel
theorem dJ9_floorDiv_f86c9_3 : decode cJ9_floorDiv_f86c9 3 = .ok (.lstore 4, 2) := by decide +kernel
theorem dJ9_floorDiv_f86c9_5 : decode cJ9_floorDiv_f86c9 5 = .ok (.lload_n 0, 1) := by decide +kernel
theorem dJ9_floorDiv_f86c9_6 : decode cJ9_floorDiv_f86c9 6 = .ok (.lload_n 2, 1) := by decide +kernel
theorem dJ9_floorDiv_f86c9_7 : decode cJ9_floorDiv_f86c9 7 = .ok (.lxor, 1) := by decide +kernel
theorem dJ9_floorDiv_f86c9_8 : decode cJ9_floorDiv_f86c9 8 = .ok (.lconst 0, 1) := by decide +kernel
theorem dJ9_floorDiv_f86c9_9 : decode cJ9_floorDiv_f86c9 9 = .ok (.lcmp, 1) := by decide +kernel
theorem dJ9_floorDiv_f86c9_10 : decode cJ9_floorDiv_f86c9 10 = .ok (.ifCond .ge 17, 3) := by decide +kernel
theorem dJ9_floorDiv_f86c9_13 : decode cJ9_floorDiv_f86c9 13 = .ok (.lload 4, 2) := by decide +kernel
theorem dJ9_floorDiv_f86c9_15 : decode cJ9_floorDiv_f86c9 15 = .ok (.lload_n 2, 1) := by decide +kernel
theorem dJ9_floorDiv_f86c9_16 : decode cJ9_floorDiv_f86c9 16 = .ok (.lmul, 1) := by decide +kernel
theorem dJ9_floorDiv_f86c9_17 : decode cJ9_floorDiv_f86c9 17 = .ok (.lload_n 0, 1) := by decide +kernel
theorem dJ9_floorDiv_f86c9_18 : decode cJ9_floorDiv_f86c9 18 = .ok (.lcmp, 1) := by decide +kernel
theorem dJ9_floorDiv_f86c9_19 : decode cJ9_floorDiv_f86c9 19 = .ok (.ifCond .eq 8, 3) := by decide +kernel
theorem dJ9_floorDiv_f86c9_22 : decode cJ9_floorDiv_f86c9 22 = .ok (.lload 4, 2) := by decide +kernel
theorem dJ9_floorDiv_f86c9_24 : decode cJ9_floorDiv_f86c9 24 = .ok (.lconst 1, 1) := by decide +kernel
theorem dJ9_floorDiv_f86c9_25 : decode cJ9_floorDiv_f86c9 25 = .ok (.lsub, 1) := by decide +kernel
theorem dJ9_floorDiv_f86c9_26 : decode cJ9_floorDiv_f86c9 26 = .ok (.lreturn, 1) := by decide +kernel
theorem dJ9_floorDiv_f86c9_27 : decode cJ9_floorDiv_f86c9 27 = .ok (.lload 4, 2) := by decide +kernel
theorem dJ9_floorDiv_f86c9_29 : decode cJ9_floorDiv_f86c9 29 = .ok (.lreturn, 1) := by decide +kernel
theorem dJ9_abs_0f7a4_0 : decode cJ9_abs_0f7a4 0 = .ok (.iload_n 0, 1) := by decide +kernel
theorem dJ9_abs_0f7a4_1 : decode cJ9_abs_0f7a4 1 = .ok (.ifCond .ge 8, 3) := by decide +kernel
theorem dJ9_abs_0f7a4_4 : decode cJ9_abs_0f7a4 4 = .ok (.iload_n 0, 1) := by decide +kernel
theorem dJ9_abs_0f7a4_5 : decode cJ9_abs_0f7a4 5 = .ok (.ineg, 1) := by decide +kernel
theorem dJ9_abs_0f7a4_6 : decode cJ9_abs_0f7a4 6 = .ok (.goto 4, 3) := by decide +kernel
theorem dJ9_abs_0f7a4_9 : decode cJ9_abs_0f7a4 9 = .ok (.iload_n 0, 1) := by decide +kernel
theorem dJ9_abs_0f7a4_10 : decode cJ9_abs_0f7a4 10 = .ok (.ireturn, 1) := by decide +kernel
theorem dJ9_abs_067f4_0 : decode cJ9_abs_067f4 0 = .ok (.lload_n 0, 1) := by decide +kernel
theorem dJ9_abs_067f4_1 : decode cJ9_abs_067f4 1 = .ok (.lconst 0, 1) := by decide +kernel
theorem dJ9_abs_067f4_2 : decode cJ9_abs_067f4 2 = .ok (.lcmp, 1) := by decide +kernel
theorem dJ9_abs_067f4_3 : decode cJ9_abs_067f4 3 = .ok (.ifCond .ge 8, 3) := by decide +kernel
theorem dJ9_abs_067f4_6 : decode cJ9_abs_067f4 6 = .ok (.lload_n 0, 1) := by decide +kernel
theorem dJ9_abs_067f4_7 : decode cJ9_abs_067f4 7 = .ok (.lneg, 1) := by decide +kernel
theorem dJ9_abs_067f4_8 : decode cJ9_abs_067f4 8 = .ok (.goto 4, 3) := by decide +kernel
theorem dJ9_abs_067f4_11 : decode cJ9_abs_067f4 11 = .ok (.lload_n 0, 1) := by decide +kernel
theorem dJ9_abs_067f4_12 : decode cJ9_abs_067f4 12 = .ok (.lreturn, 1) := by decide +kernel
theorem dJ9_max_7cf53_0 : decode cJ9_max_7cf53 0 = .ok (.iload_n 0, 1) := by decide +kernel
theorem dJ9_max_7cf53_1 : decode cJ9_max_7cf53 1 = .ok (.iload_n 1, 1) := by decide +kernel
theorem dJ9_max_7cf53_2 : decode cJ9_max_7cf53 2 = .ok (.if_icmp .lt 7, 3) := by decide +kernel
theorem dJ9_max_7cf53_5 : decode cJ9_max_7cf53 5 = .ok (.iload_n 0, 1) := by decide +kernel
theorem dJ9_max_7cf53_6 : decode cJ9_max_7cf53 6 = .ok (.goto 4, 3) := by decide +kernel
theorem dJ9_max_7cf53_9 : decode cJ9_max_7cf53 9 = .ok (.iload_n 1, 1) := by decide +kernel
theorem dJ9_max_7cf53_10 : decode cJ9_max_7cf53 10 = .ok (.ireturn, 1) := by decide +kernel
theorem dJ9_max_f86c9_0 : decode cJ9_max_f86c9 0 = .ok (.lload_n 0, 1) := by decide +kernel
theorem dJ9_max_f86c9_1 : decode cJ9_max_f86c9 1 = .ok (.lload_n 2, 1) := by decide +kernel
theorem dJ9_max_f86c9_2 : decode cJ9_max_f86c9 2 = .ok (.lcmp, 1) := by decide +kernel
theorem dJ9_max_f86c9_3 : decode cJ9_max_f86c9 3 = .ok (.ifCond .lt 7, 3) := by decide +kernel
theorem dJ9_max_f86c9_6 : decode cJ9_max_f86c9 6 = .ok (.lload_n 0, 1) := by decide +kernel
theorem dJ9_max_f86c9_7 : decode cJ9_max_f86c9 7 = .ok (.goto 4, 3) := by decide +kernel
theorem dJ9_max_f86c9_10 : decode cJ9_max_f86c9 10 = .ok (.lload_n 2, 1) := by decide +kernel
theorem dJ9_max_f86c9_11 : decode cJ9_max_f86c9 11 = .ok (.lreturn, 1) := by decide +kernel
theorem dJ7_fill_d0a16_0 : decode cJ7_fill_d0a16 0 = .ok (.iconst 0, 1) := by decide +kernel
theorem dJ7_fill_d0a16_1 : decode cJ7_fill_d0a16 1 = .ok (.istore_n 3, 1) := by decide +kernel
theorem dJ7_fill_d0a16_2 : decode cJ7_fill_d0a16 2 = .ok (.aload_n 0, 1) := by decide +kernel
theorem dJ7_fill_d0a16_3 : decode cJ7_fill_d0a16 3 = .ok (.arraylength, 1) := by decide +kernel
theorem dJ7_fill_d0a16_4 : decode cJ7_fill_d0a16 4 = .ok (.istore 4, 2) := by decide +kernel
theorem dJ7_fill_d0a16_6 : decode cJ7_fill_d0a16 6 = .ok (.iload_n 3, 1) := by decide +kernel
theorem dJ7_fill_d0a16_7 : decode cJ7_fill_d0a16 7 = .ok (.iload 4, 2) := by decide +kernel
theorem dJ7_fill_d0a16_9 : decode cJ7_fill_d0a16 9 = .ok (.if_icmp .ge 13, 3) := by decide +kernel
theorem dJ7_fill_d0a16_12 : decode cJ7_fill_d0a16 12 = .ok (.aload_n 0, 1) := by decide +kernel
theorem dJ7_fill_d0a16_13 : decode cJ7_fill_d0a16 13 = .ok (.iload_n 3, 1) := by decide +kernel
theorem dJ7_fill_d0a16_14 : decode cJ7_fill_d0a16 14 = .ok (.lload_n 1, 1) := by decide +kernel
theorem dJ7_fill_d0a16_15 : decode cJ7_fill_d0a16 15 = .ok (.lastore, 1) := by decide +kernel
theorem dJ7_fill_d0a16_16 : decode cJ7_fill_d0a16 16 = .ok (.iinc 3 1, 3) := by decide +kernel
theorem dJ7_fill_d0a16_19 : decode cJ7_fill_d0a16 19 = .ok (.goto (-13), 3) := by decide +kernel
theorem dJ7_fill_d0a16_22 : decode cJ7_fill_d0a16 22 = .ok (.return_, 1) := by decide +kernel
