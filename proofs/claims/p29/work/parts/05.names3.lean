theorem dX2_compose_28 : decode cX2_compose 28 = .ok (.ifnull 8, 3) := by decide +kernel
theorem dX2_compose_31 : decode cX2_compose 31 = .ok (.aload 6, 2) := by decide +kernel
theorem dX2_compose_33 : decode cX2_compose 33 = .ok (.ifnonnull 7, 3) := by decide +kernel
theorem dX2_compose_36 : decode cX2_compose 36 = .ok (.ldc2_w 50, 3) := by decide +kernel
theorem dX2_compose_39 : decode cX2_compose 39 = .ok (.lreturn, 1) := by decide +kernel
theorem dX2_compose_40 : decode cX2_compose 40 = .ok (.aload_n 0, 1) := by decide +kernel
theorem dX2_compose_41 : decode cX2_compose 41 = .ok (.aload 4, 2) := by decide +kernel
theorem dX2_compose_43 : decode cX2_compose 43 = .ok (.aload 5, 2) := by decide +kernel
theorem dX2_compose_45 : decode cX2_compose 45 = .ok (.invokevirtual 95, 3) := by decide +kernel
theorem dX2_compose_48 : decode cX2_compose 48 = .ok (.lstore 7, 2) := by decide +kernel
theorem dX2_compose_50 : decode cX2_compose 50 = .ok (.lload 7, 2) := by decide +kernel
theorem dX2_compose_52 : decode cX2_compose 52 = .ok (.lconst 0, 1) := by decide +kernel
theorem dX2_compose_53 : decode cX2_compose 53 = .ok (.lcmp, 1) := by decide +kernel
theorem dX2_compose_54 : decode cX2_compose 54 = .ok (.ifCond .eq 8, 3) := by decide +kernel
theorem dX2_compose_57 : decode cX2_compose 57 = .ok (.lload 7, 2) := by decide +kernel
theorem dX2_compose_59 : decode cX2_compose 59 = .ok (.goto 9, 3) := by decide +kernel
theorem dX2_compose_62 : decode cX2_compose 62 = .ok (.aload_n 0, 1) := by decide +kernel
theorem dX2_compose_63 : decode cX2_compose 63 = .ok (.aload 6, 2) := by decide +kernel
theorem dX2_compose_65 : decode cX2_compose 65 = .ok (.invokevirtual 81, 3) := by decide +kernel
theorem dX2_compose_68 : decode cX2_compose 68 = .ok (.lreturn, 1) := by decide +kernel
set_option maxRecDepth 20000 in
theorem ggX2_divide_X2_find : GoodIn wsX2_divide wsX2_find := goodIn_r _ [9, 10, 77, 78, 79, 80, 81, 82, 83] (by decide +kernel) (by decide +kernel)
set_option maxRecDepth 20000 in
theorem gX2_divide_X2_find : GoodIn wsX2_divide (wsV RX2 40 RX2 yX2_find wsX2_find) := goodIn_app (goodIn_of _ (by decide +kernel)) ggX2_divide_X2_find
set_option maxRecDepth 20000 in
theorem ggX2_divide_X2_isOutside : GoodIn wsX2_divide wsX2_isOutside := goodIn_r _ [13] (by decide +kernel) (by decide +kernel)
set_option maxRecDepth 20000 in
theorem gX2_divide_X2_isOutside : GoodIn wsX2_divide (va_wsS RX2 44 yX2_isOutside wsX2_isOutside) := goodIn_app (goodIn_of _ (by decide +kernel)) ggX2_divide_X2_isOutside
set_option maxRecDepth 20000 in
theorem ggX2_divide_X1_valueAt : GoodIn wsX2_divide wsX1_valueAt := goodIn_r _ [18, 19, 20, 21, 22, 23, 24, 17, 25, 26, 27, 8, 28, 29, 30, 31, 32, 33, 84, 85] (by decide +kernel) (by decide +kernel)
set_option maxRecDepth 20000 in
theorem gX2_divide_X1_valueAt : GoodIn wsX2_divide (wsV RX2 73 RX1 yX1_valueAt wsX1_valueAt) := goodIn_app (goodIn_of _ (by decide +kernel)) ggX2_divide_X1_valueAt
set_option maxRecDepth 20000 in
theorem ggX2_divide_X1_becomeQuotient : GoodIn wsX2_divide wsX1_becomeQuotient := goodIn_r _ [37, 19, 20, 21, 38, 39, 40, 17, 41, 26, 42, 43, 44, 45, 22, 23, 24, 25, 27, 8, 28, 29, 30, 31, 32, 33, 46, 47, 48, 49, 50, 51, 52, 53, 84, 85] (by decide +kernel) (by decide +kernel)
set_option maxRecDepth 20000 in
theorem gX2_divide_X1_becomeQuotient : GoodIn wsX2_divide (wsV RX2 99 RX1 yX1_becomeQuotient wsX1_becomeQuotient) := goodIn_app (goodIn_of _ (by decide +kernel)) ggX2_divide_X1_becomeQuotient
set_option maxRecDepth 20000 in
theorem ggX2_divide_X2_keepMade : GoodIn wsX2_divide wsX2_keepMade := goodIn_r _ [57, 4, 58, 59, 60, 17, 61, 19, 62, 26, 63, 64, 65, 66, 67, 68, 69, 70, 71, 72, 22, 23, 24, 25, 73, 74, 75, 76, 77, 78, 79, 80, 81, 82, 83, 84, 85] (by decide +kernel) (by decide +kernel)
set_option maxRecDepth 20000 in
theorem gX2_divide_X2_keepMade : GoodIn wsX2_divide (wsV RX2 81 RX2 yX2_keepMade wsX2_keepMade) := goodIn_app (goodIn_of _ (by decide +kernel)) ggX2_divide_X2_keepMade
theorem dX2_divide_0 : decode cX2_divide 0 = .ok (.aload_n 0, 1) := by decide +kernel
theorem dX2_divide_1 : decode cX2_divide 1 = .ok (.iload_n 1, 1) := by decide +kernel
theorem dX2_divide_2 : decode cX2_divide 2 = .ok (.invokevirtual 40, 3) := by decide +kernel
theorem dX2_divide_5 : decode cX2_divide 5 = .ok (.astore 4, 2) := by decide +kernel
theorem dX2_divide_7 : decode cX2_divide 7 = .ok (.aload_n 0, 1) := by decide +kernel
theorem dX2_divide_8 : decode cX2_divide 8 = .ok (.iload_n 3, 1) := by decide +kernel
theorem dX2_divide_9 : decode cX2_divide 9 = .ok (.invokevirtual 40, 3) := by decide +kernel
theorem dX2_divide_12 : decode cX2_divide 12 = .ok (.astore 5, 2) := by decide +kernel
theorem dX2_divide_14 : decode cX2_divide 14 = .ok (.aload 4, 2) := by decide +kernel
theorem dX2_divide_16 : decode cX2_divide 16 = .ok (.ifnull 19, 3) := by decide +kernel
theorem dX2_divide_19 : decode cX2_divide 19 = .ok (.aload 5, 2) := by decide +kernel
theorem dX2_divide_21 : decode cX2_divide 21 = .ok (.ifnull 14, 3) := by decide +kernel
theorem dX2_divide_24 : decode cX2_divide 24 = .ok (.iload_n 2, 1) := by decide +kernel
theorem dX2_divide_25 : decode cX2_divide 25 = .ok (.ldc 71, 2) := by decide +kernel
theorem dX2_divide_27 : decode cX2_divide 27 = .ok (.ldc 72, 2) := by decide +kernel
theorem dX2_divide_29 : decode cX2_divide 29 = .ok (.invokestatic 44, 3) := by decide +kernel
theorem dX2_divide_32 : decode cX2_divide 32 = .ok (.ifCond .eq 7, 3) := by decide +kernel
theorem dX2_divide_35 : decode cX2_divide 35 = .ok (.ldc2_w 50, 3) := by decide +kernel
theorem dX2_divide_38 : decode cX2_divide 38 = .ok (.lreturn, 1) := by decide +kernel
theorem dX2_divide_39 : decode cX2_divide 39 = .ok (.aload 4, 2) := by decide +kernel
theorem dX2_divide_41 : decode cX2_divide 41 = .ok (.iload_n 2, 1) := by decide +kernel
theorem dX2_divide_42 : decode cX2_divide 42 = .ok (.i2l, 1) := by decide +kernel
theorem dX2_divide_43 : decode cX2_divide 43 = .ok (.invokevirtual 73, 3) := by decide +kernel
theorem dX2_divide_46 : decode cX2_divide 46 = .ok (.lstore 6, 2) := by decide +kernel
theorem dX2_divide_48 : decode cX2_divide 48 = .ok (.aload_n 0, 1) := by decide +kernel
theorem dX2_divide_49 : decode cX2_divide 49 = .ok (.getfield 27, 3) := by decide +kernel
theorem dX2_divide_52 : decode cX2_divide 52 = .ok (.aload 4, 2) := by decide +kernel
theorem dX2_divide_54 : decode cX2_divide 54 = .ok (.iload_n 2, 1) := by decide +kernel
theorem dX2_divide_55 : decode cX2_divide 55 = .ok (.i2l, 1) := by decide +kernel
theorem dX2_divide_56 : decode cX2_divide 56 = .ok (.invokevirtual 99, 3) := by decide +kernel
theorem dX2_divide_59 : decode cX2_divide 59 = .ok (.aload_n 0, 1) := by decide +kernel
theorem dX2_divide_60 : decode cX2_divide 60 = .ok (.aload 5, 2) := by decide +kernel
theorem dX2_divide_62 : decode cX2_divide 62 = .ok (.invokevirtual 81, 3) := by decide +kernel
theorem dX2_divide_65 : decode cX2_divide 65 = .ok (.lstore 8, 2) := by decide +kernel
theorem dX2_divide_67 : decode cX2_divide 67 = .ok (.lload 8, 2) := by decide +kernel
theorem dX2_divide_69 : decode cX2_divide 69 = .ok (.lconst 0, 1) := by decide +kernel
theorem dX2_divide_70 : decode cX2_divide 70 = .ok (.lcmp, 1) := by decide +kernel
theorem dX2_divide_71 : decode cX2_divide 71 = .ok (.ifCond .ge 8, 3) := by decide +kernel
theorem dX2_divide_74 : decode cX2_divide 74 = .ok (.lload 8, 2) := by decide +kernel
theorem dX2_divide_76 : decode cX2_divide 76 = .ok (.goto 5, 3) := by decide +kernel
theorem dX2_divide_79 : decode cX2_divide 79 = .ok (.lload 6, 2) := by decide +kernel
theorem dX2_divide_81 : decode cX2_divide 81 = .ok (.lreturn, 1) := by decide +kernel
set_option maxRecDepth 20000 in
theorem ggX2_cut_X2_find : GoodIn wsX2_cut wsX2_find := goodIn_r _ [7, 8, 42, 43, 44, 45, 46, 47, 48] (by decide +kernel) (by decide +kernel)
set_option maxRecDepth 20000 in
theorem gX2_cut_X2_find : GoodIn wsX2_cut (wsV RX2 40 RX2 yX2_find wsX2_find) := goodIn_app (goodIn_of _ (by decide +kernel)) ggX2_cut_X2_find
set_option maxRecDepth 20000 in
theorem ggX2_cut_X2_isOutside : GoodIn wsX2_cut wsX2_isOutside := goodIn_r _ [11] (by decide +kernel) (by decide +kernel)
set_option maxRecDepth 20000 in
theorem gX2_cut_X2_isOutside : GoodIn wsX2_cut (va_wsS RX2 44 yX2_isOutside wsX2_isOutside) := goodIn_app (goodIn_of _ (by decide +kernel)) ggX2_cut_X2_isOutside
set_option maxRecDepth 20000 in
theorem ggX2_cut_X1_top : GoodIn wsX2_cut wsX1_top := goodIn_r _ [16, 17, 49, 50] (by decide +kernel) (by decide +kernel)
set_option maxRecDepth 20000 in
theorem gX2_cut_X1_top : GoodIn wsX2_cut (wsV RX2 59 RX1 yX1_top wsX1_top) := goodIn_app (goodIn_of _ (by decide +kernel)) ggX2_cut_X1_top
set_option maxRecDepth 20000 in
theorem ggX2_cut_X1_topWithin : GoodIn wsX2_cut wsX1_topWithin := goodIn_r _ [21, 17, 22, 23, 24, 25, 26, 27, 28, 15, 29, 30, 49, 50] (by decide +kernel) (by decide +kernel)
set_option maxRecDepth 20000 in
theorem gX2_cut_X1_topWithin : GoodIn wsX2_cut (wsV RX2 104 RX1 yX1_topWithin wsX1_topWithin) := goodIn_app (goodIn_of _ (by decide +kernel)) ggX2_cut_X1_topWithin
set_option maxRecDepth 20000 in
theorem ggX2_cut_X1_dropAbove : GoodIn wsX2_cut wsX1_dropAbove := goodIn_r _ [34, 35, 36, 24, 37, 30, 38, 39, 40, 15, 41, 17, 49, 50] (by decide +kernel) (by decide +kernel)
set_option maxRecDepth 20000 in
theorem gX2_cut_X1_dropAbove : GoodIn wsX2_cut (wsV RX2 108 RX1 yX1_dropAbove wsX1_dropAbove) := goodIn_app (goodIn_of _ (by decide +kernel)) ggX2_cut_X1_dropAbove
theorem dX2_cut_0 : decode cX2_cut 0 = .ok (.aload_n 0, 1) := by decide +kernel
theorem dX2_cut_1 : decode cX2_cut 1 = .ok (.iload_n 1, 1) := by decide +kernel
theorem dX2_cut_2 : decode cX2_cut 2 = .ok (.invokevirtual 40, 3) := by decide +kernel
theorem dX2_cut_5 : decode cX2_cut 5 = .ok (.astore_n 3, 1) := by decide +kernel
theorem dX2_cut_6 : decode cX2_cut 6 = .ok (.aload_n 3, 1) := by decide +kernel
theorem dX2_cut_7 : decode cX2_cut 7 = .ok (.ifnull 13, 3) := by decide +kernel
theorem dX2_cut_10 : decode cX2_cut 10 = .ok (.iload_n 2, 1) := by decide +kernel
theorem dX2_cut_11 : decode cX2_cut 11 = .ok (.iconst 0, 1) := by decide +kernel
theorem dX2_cut_12 : decode cX2_cut 12 = .ok (.ldc 103, 2) := by decide +kernel
theorem dX2_cut_14 : decode cX2_cut 14 = .ok (.invokestatic 44, 3) := by decide +kernel
theorem dX2_cut_17 : decode cX2_cut 17 = .ok (.ifCond .eq 7, 3) := by decide +kernel
theorem dX2_cut_20 : decode cX2_cut 20 = .ok (.ldc2_w 50, 3) := by decide +kernel
theorem dX2_cut_23 : decode cX2_cut 23 = .ok (.lreturn, 1) := by decide +kernel
theorem dX2_cut_24 : decode cX2_cut 24 = .ok (.aload_n 3, 1) := by decide +kernel
theorem dX2_cut_25 : decode cX2_cut 25 = .ok (.invokevirtual 59, 3) := by decide +kernel
theorem dX2_cut_28 : decode cX2_cut 28 = .ok (.istore 4, 2) := by decide +kernel
theorem dX2_cut_30 : decode cX2_cut 30 = .ok (.aload_n 3, 1) := by decide +kernel
theorem dX2_cut_31 : decode cX2_cut 31 = .ok (.aload_n 3, 1) := by decide +kernel
theorem dX2_cut_32 : decode cX2_cut 32 = .ok (.iload_n 2, 1) := by decide +kernel
theorem dX2_cut_33 : decode cX2_cut 33 = .ok (.invokevirtual 104, 3) := by decide +kernel
theorem dX2_cut_36 : decode cX2_cut 36 = .ok (.invokevirtual 108, 3) := by decide +kernel
theorem dX2_cut_39 : decode cX2_cut 39 = .ok (.iload 4, 2) := by decide +kernel
theorem dX2_cut_41 : decode cX2_cut 41 = .ok (.aload_n 3, 1) := by decide +kernel
theorem dX2_cut_42 : decode cX2_cut 42 = .ok (.invokevirtual 59, 3) := by decide +kernel
theorem dX2_cut_45 : decode cX2_cut 45 = .ok (.isub, 1) := by decide +kernel
theorem dX2_cut_46 : decode cX2_cut 46 = .ok (.i2l, 1) := by decide +kernel
theorem dX2_cut_47 : decode cX2_cut 47 = .ok (.lreturn, 1) := by decide +kernel
set_option maxRecDepth 20000 in
theorem ggX2_basis_X2_find : GoodIn wsX2_basis wsX2_find := goodIn_r _ [7, 8, 31, 32, 33, 34, 35, 36, 37] (by decide +kernel) (by decide +kernel)
set_option maxRecDepth 20000 in
theorem gX2_basis_X2_find : GoodIn wsX2_basis (wsV RX2 40 RX2 yX2_find wsX2_find) := goodIn_app (goodIn_of _ (by decide +kernel)) ggX2_basis_X2_find
set_option maxRecDepth 20000 in
theorem ggX2_basis_X2_isOutside : GoodIn wsX2_basis wsX2_isOutside := goodIn_r _ [11] (by decide +kernel) (by decide +kernel)
set_option maxRecDepth 20000 in
theorem gX2_basis_X2_isOutside : GoodIn wsX2_basis (va_wsS RX2 44 yX2_isOutside wsX2_isOutside) := goodIn_app (goodIn_of _ (by decide +kernel)) ggX2_basis_X2_isOutside
set_option maxRecDepth 20000 in
theorem ggX2_basis_X1_clear : GoodIn wsX2_basis wsX1_clear := goodIn_r _ [16, 17, 18, 19, 20, 21, 22, 38, 39] (by decide +kernel) (by decide +kernel)
set_option maxRecDepth 20000 in
theorem gX2_basis_X1_clear : GoodIn wsX2_basis (wsV RX2 112 RX1 yX1_clear wsX1_clear) := goodIn_app (goodIn_of _ (by decide +kernel)) ggX2_basis_X1_clear
set_option maxRecDepth 20000 in
theorem ggX2_basis_X1_put : GoodIn wsX2_basis wsX1_put := goodIn_r _ [26, 17, 38, 39] (by decide +kernel) (by decide +kernel)
set_option maxRecDepth 20000 in
theorem gX2_basis_X1_put : GoodIn wsX2_basis (wsV RX2 52 RX1 yX1_put wsX1_put) := goodIn_app (goodIn_of _ (by decide +kernel)) ggX2_basis_X1_put
set_option maxRecDepth 20000 in
theorem ggX2_basis_X1_trim : GoodIn wsX2_basis wsX1_trim := goodIn_r _ [30, 18, 17, 38, 39] (by decide +kernel) (by decide +kernel)
set_option maxRecDepth 20000 in
theorem gX2_basis_X1_trim : GoodIn wsX2_basis (wsV RX2 56 RX1 yX1_trim wsX1_trim) := goodIn_app (goodIn_of _ (by decide +kernel)) ggX2_basis_X1_trim
theorem dX2_basis_0 : decode cX2_basis 0 = .ok (.aload_n 0, 1) := by decide +kernel
theorem dX2_basis_1 : decode cX2_basis 1 = .ok (.iload_n 2, 1) := by decide +kernel
theorem dX2_basis_2 : decode cX2_basis 2 = .ok (.invokevirtual 40, 3) := by decide +kernel
theorem dX2_basis_5 : decode cX2_basis 5 = .ok (.astore_n 3, 1) := by decide +kernel
theorem dX2_basis_6 : decode cX2_basis 6 = .ok (.aload_n 3, 1) := by decide +kernel
theorem dX2_basis_7 : decode cX2_basis 7 = .ok (.ifnull 13, 3) := by decide +kernel
theorem dX2_basis_10 : decode cX2_basis 10 = .ok (.iload_n 1, 1) := by decide +kernel
theorem dX2_basis_11 : decode cX2_basis 11 = .ok (.iconst 0, 1) := by decide +kernel
theorem dX2_basis_12 : decode cX2_basis 12 = .ok (.bipush 24, 2) := by decide +kernel
theorem dX2_basis_14 : decode cX2_basis 14 = .ok (.invokestatic 44, 3) := by decide +kernel
theorem dX2_basis_17 : decode cX2_basis 17 = .ok (.ifCond .eq 7, 3) := by decide +kernel
theorem dX2_basis_20 : decode cX2_basis 20 = .ok (.ldc2_w 50, 3) := by decide +kernel
theorem dX2_basis_23 : decode cX2_basis 23 = .ok (.lreturn, 1) := by decide +kernel
theorem dX2_basis_24 : decode cX2_basis 24 = .ok (.aload_n 3, 1) := by decide +kernel
theorem dX2_basis_25 : decode cX2_basis 25 = .ok (.invokevirtual 112, 3) := by decide +kernel
theorem dX2_basis_28 : decode cX2_basis 28 = .ok (.aload_n 3, 1) := by decide +kernel
theorem dX2_basis_29 : decode cX2_basis 29 = .ok (.iload_n 1, 1) := by decide +kernel
theorem dX2_basis_30 : decode cX2_basis 30 = .ok (.ldc2_w 115, 3) := by decide +kernel
theorem dX2_basis_33 : decode cX2_basis 33 = .ok (.invokevirtual 52, 3) := by decide +kernel
theorem dX2_basis_36 : decode cX2_basis 36 = .ok (.aload_n 3, 1) := by decide +kernel
theorem dX2_basis_37 : decode cX2_basis 37 = .ok (.invokevirtual 56, 3) := by decide +kernel
theorem dX2_basis_40 : decode cX2_basis 40 = .ok (.iload_n 1, 1) := by decide +kernel
theorem dX2_basis_41 : decode cX2_basis 41 = .ok (.i2l, 1) := by decide +kernel
theorem dX2_basis_42 : decode cX2_basis 42 = .ok (.lreturn, 1) := by decide +kernel
set_option maxRecDepth 20000 in
theorem ggX2_integral_X2_find : GoodIn wsX2_integral wsX2_find := goodIn_r _ [8, 9, 28, 29, 30, 31, 32, 33, 34] (by decide +kernel) (by decide +kernel)
set_option maxRecDepth 20000 in
theorem gX2_integral_X2_find : GoodIn wsX2_integral (wsV RX2 40 RX2 yX2_find wsX2_find) := goodIn_app (goodIn_of _ (by decide +kernel)) ggX2_integral_X2_find
set_option maxRecDepth 20000 in
theorem ggX2_integral_X1_at : GoodIn wsX2_integral wsX1_at := goodIn_r _ [14, 15, 35, 36] (by decide +kernel) (by decide +kernel)
set_option maxRecDepth 20000 in
theorem gX2_integral_X1_at : GoodIn wsX2_integral (wsV RX2 63 RX1 yX1_at wsX1_at) := goodIn_app (goodIn_of _ (by decide +kernel)) ggX2_integral_X1_at
set_option maxRecDepth 20000 in
theorem ggX2_integral_X1_top : GoodIn wsX2_integral wsX1_top := goodIn_r _ [19, 20, 35, 36] (by decide +kernel) (by decide +kernel)
set_option maxRecDepth 20000 in
theorem gX2_integral_X1_top : GoodIn wsX2_integral (wsV RX2 59 RX1 yX1_top wsX1_top) := goodIn_app (goodIn_of _ (by decide +kernel)) ggX2_integral_X1_top
set_option maxRecDepth 20000 in
theorem ggX2_integral_X2_rounded : GoodIn wsX2_integral wsX2_rounded := goodIn_r _ [23, 2, 24, 25, 26, 27] (by decide +kernel) (by decide +kernel)
set_option maxRecDepth 20000 in
theorem gX2_integral_X2_rounded : GoodIn wsX2_integral (va_wsS RX2 121 yX2_rounded wsX2_rounded) := goodIn_app (goodIn_of _ (by decide +kernel)) ggX2_integral_X2_rounded
theorem dX2_integral_0 : decode cX2_integral 0 = .ok (.aload_n 0, 1) := by decide +kernel
theorem dX2_integral_1 : decode cX2_integral 1 = .ok (.iload_n 1, 1) := by decide +kernel
theorem dX2_integral_2 : decode cX2_integral 2 = .ok (.invokevirtual 40, 3) := by decide +kernel
theorem dX2_integral_5 : decode cX2_integral 5 = .ok (.astore_n 2, 1) := by decide +kernel
theorem dX2_integral_6 : decode cX2_integral 6 = .ok (.aload_n 2, 1) := by decide +kernel
theorem dX2_integral_7 : decode cX2_integral 7 = .ok (.ifnonnull 7, 3) := by decide +kernel
theorem dX2_integral_10 : decode cX2_integral 10 = .ok (.ldc2_w 50, 3) := by decide +kernel
theorem dX2_integral_13 : decode cX2_integral 13 = .ok (.lreturn, 1) := by decide +kernel
theorem dX2_integral_14 : decode cX2_integral 14 = .ok (.ldc2_w 117, 3) := by decide +kernel
theorem dX2_integral_17 : decode cX2_integral 17 = .ok (.aload_n 2, 1) := by decide +kernel
theorem dX2_integral_18 : decode cX2_integral 18 = .ok (.iconst 0, 1) := by decide +kernel
theorem dX2_integral_19 : decode cX2_integral 19 = .ok (.invokevirtual 63, 3) := by decide +kernel
theorem dX2_integral_22 : decode cX2_integral 22 = .ok (.lmul, 1) := by decide +kernel
theorem dX2_integral_23 : decode cX2_integral 23 = .ok (.lstore_n 3, 1) := by decide +kernel
theorem dX2_integral_24 : decode cX2_integral 24 = .ok (.iconst 2, 1) := by decide +kernel
theorem dX2_integral_25 : decode cX2_integral 25 = .ok (.istore 5, 2) := by decide +kernel
theorem dX2_integral_27 : decode cX2_integral 27 = .ok (.iload 5, 2) := by decide +kernel
theorem dX2_integral_29 : decode cX2_integral 29 = .ok (.aload_n 2, 1) := by decide +kernel
theorem dX2_integral_30 : decode cX2_integral 30 = .ok (.invokevirtual 59, 3) := by decide +kernel
theorem dX2_integral_33 : decode cX2_integral 33 = .ok (.if_icmp .gt 34, 3) := by decide +kernel
theorem dX2_integral_36 : decode cX2_integral 36 = .ok (.lload_n 3, 1) := by decide +kernel
theorem dX2_integral_37 : decode cX2_integral 37 = .ok (.ldc2_w 119, 3) := by decide +kernel
theorem dX2_integral_40 : decode cX2_integral 40 = .ok (.aload_n 2, 1) := by decide +kernel
theorem dX2_integral_41 : decode cX2_integral 41 = .ok (.iload 5, 2) := by decide +kernel
theorem dX2_integral_43 : decode cX2_integral 43 = .ok (.invokevirtual 63, 3) := by decide +kernel
theorem dX2_integral_46 : decode cX2_integral 46 = .ok (.lmul, 1) := by decide +kernel
theorem dX2_integral_47 : decode cX2_integral 47 = .ok (.iload 5, 2) := by decide +kernel
theorem dX2_integral_49 : decode cX2_integral 49 = .ok (.i2l, 1) := by decide +kernel
theorem dX2_integral_50 : decode cX2_integral 50 = .ok (.iload 5, 2) := by decide +kernel
theorem dX2_integral_52 : decode cX2_integral 52 = .ok (.i2l, 1) := by decide +kernel
theorem dX2_integral_53 : decode cX2_integral 53 = .ok (.lmul, 1) := by decide +kernel
theorem dX2_integral_54 : decode cX2_integral 54 = .ok (.lconst 1, 1) := by decide +kernel
theorem dX2_integral_55 : decode cX2_integral 55 = .ok (.lsub, 1) := by decide +kernel
theorem dX2_integral_56 : decode cX2_integral 56 = .ok (.invokestatic 121, 3) := by decide +kernel
theorem dX2_integral_59 : decode cX2_integral 59 = .ok (.ladd, 1) := by decide +kernel
theorem dX2_integral_60 : decode cX2_integral 60 = .ok (.lstore_n 3, 1) := by decide +kernel
theorem dX2_integral_61 : decode cX2_integral 61 = .ok (.iinc 5 2, 3) := by decide +kernel
theorem dX2_integral_64 : decode cX2_integral 64 = .ok (.goto (-37), 3) := by decide +kernel
theorem dX2_integral_67 : decode cX2_integral 67 = .ok (.lload_n 3, 1) := by decide +kernel
theorem dX2_integral_68 : decode cX2_integral 68 = .ok (.lreturn, 1) := by decide +kernel
set_option maxRecDepth 20000 in
theorem ggX2_inner_X2_find : GoodIn wsX2_inner wsX2_find := goodIn_r _ [8, 9, 23, 24, 25, 26, 27, 28, 29] (by decide +kernel) (by decide +kernel)
set_option maxRecDepth 20000 in
theorem gX2_inner_X2_find : GoodIn wsX2_inner (wsV RX2 40 RX2 yX2_find wsX2_find) := goodIn_app (goodIn_of _ (by decide +kernel)) ggX2_inner_X2_find
set_option maxRecDepth 20000 in
theorem ggX2_inner_X1_at : GoodIn wsX2_inner wsX1_at := goodIn_r _ [14, 15, 30, 31] (by decide +kernel) (by decide +kernel)
set_option maxRecDepth 20000 in
theorem gX2_inner_X1_at : GoodIn wsX2_inner (wsV RX2 63 RX1 yX1_at wsX1_at) := goodIn_app (goodIn_of _ (by decide +kernel)) ggX2_inner_X1_at
set_option maxRecDepth 20000 in
theorem ggX2_inner_X2_rounded : GoodIn wsX2_inner wsX2_rounded := goodIn_r _ [18, 2, 19, 20, 21, 22] (by decide +kernel) (by decide +kernel)
set_option maxRecDepth 20000 in
theorem gX2_inner_X2_rounded : GoodIn wsX2_inner (va_wsS RX2 121 yX2_rounded wsX2_rounded) := goodIn_app (goodIn_of _ (by decide +kernel)) ggX2_inner_X2_rounded
theorem dX2_inner_0 : decode cX2_inner 0 = .ok (.aload_n 0, 1) := by decide +kernel
theorem dX2_inner_1 : decode cX2_inner 1 = .ok (.iload_n 1, 1) := by decide +kernel
theorem dX2_inner_2 : decode cX2_inner 2 = .ok (.invokevirtual 40, 3) := by decide +kernel
theorem dX2_inner_5 : decode cX2_inner 5 = .ok (.astore_n 3, 1) := by decide +kernel
theorem dX2_inner_6 : decode cX2_inner 6 = .ok (.aload_n 0, 1) := by decide +kernel
theorem dX2_inner_7 : decode cX2_inner 7 = .ok (.iload_n 2, 1) := by decide +kernel
theorem dX2_inner_8 : decode cX2_inner 8 = .ok (.invokevirtual 40, 3) := by decide +kernel
theorem dX2_inner_11 : decode cX2_inner 11 = .ok (.astore 4, 2) := by decide +kernel
theorem dX2_inner_13 : decode cX2_inner 13 = .ok (.aload_n 3, 1) := by decide +kernel
theorem dX2_inner_14 : decode cX2_inner 14 = .ok (.ifnull 8, 3) := by decide +kernel
theorem dX2_inner_17 : decode cX2_inner 17 = .ok (.aload 4, 2) := by decide +kernel
theorem dX2_inner_19 : decode cX2_inner 19 = .ok (.ifnonnull 7, 3) := by decide +kernel
theorem dX2_inner_22 : decode cX2_inner 22 = .ok (.ldc2_w 50, 3) := by decide +kernel
theorem dX2_inner_25 : decode cX2_inner 25 = .ok (.lreturn, 1) := by decide +kernel
theorem dX2_inner_26 : decode cX2_inner 26 = .ok (.ldc2_w 117, 3) := by decide +kernel
theorem dX2_inner_29 : decode cX2_inner 29 = .ok (.aload_n 3, 1) := by decide +kernel
theorem dX2_inner_30 : decode cX2_inner 30 = .ok (.iconst 0, 1) := by decide +kernel
theorem dX2_inner_31 : decode cX2_inner 31 = .ok (.invokevirtual 63, 3) := by decide +kernel
theorem dX2_inner_34 : decode cX2_inner 34 = .ok (.lmul, 1) := by decide +kernel
theorem dX2_inner_35 : decode cX2_inner 35 = .ok (.aload 4, 2) := by decide +kernel
theorem dX2_inner_37 : decode cX2_inner 37 = .ok (.iconst 0, 1) := by decide +kernel
theorem dX2_inner_38 : decode cX2_inner 38 = .ok (.invokevirtual 63, 3) := by decide +kernel
theorem dX2_inner_41 : decode cX2_inner 41 = .ok (.lmul, 1) := by decide +kernel
theorem dX2_inner_42 : decode cX2_inner 42 = .ok (.lstore 5, 2) := by decide +kernel
theorem dX2_inner_44 : decode cX2_inner 44 = .ok (.iconst 1, 1) := by decide +kernel
theorem dX2_inner_45 : decode cX2_inner 45 = .ok (.istore 7, 2) := by decide +kernel
theorem dX2_inner_47 : decode cX2_inner 47 = .ok (.iload 7, 2) := by decide +kernel
theorem dX2_inner_49 : decode cX2_inner 49 = .ok (.bipush 24, 2) := by decide +kernel
theorem dX2_inner_51 : decode cX2_inner 51 = .ok (.if_icmp .gt 28, 3) := by decide +kernel
theorem dX2_inner_54 : decode cX2_inner 54 = .ok (.lload 5, 2) := by decide +kernel
theorem dX2_inner_56 : decode cX2_inner 56 = .ok (.aload_n 3, 1) := by decide +kernel
theorem dX2_inner_57 : decode cX2_inner 57 = .ok (.iload 7, 2) := by decide +kernel
theorem dX2_inner_59 : decode cX2_inner 59 = .ok (.invokevirtual 63, 3) := by decide +kernel
theorem dX2_inner_62 : decode cX2_inner 62 = .ok (.aload 4, 2) := by decide +kernel
theorem dX2_inner_64 : decode cX2_inner 64 = .ok (.iload 7, 2) := by decide +kernel
theorem dX2_inner_66 : decode cX2_inner 66 = .ok (.invokevirtual 63, 3) := by decide +kernel
theorem dX2_inner_69 : decode cX2_inner 69 = .ok (.lmul, 1) := by decide +kernel
theorem dX2_inner_70 : decode cX2_inner 70 = .ok (.ladd, 1) := by decide +kernel
theorem dX2_inner_71 : decode cX2_inner 71 = .ok (.lstore 5, 2) := by decide +kernel
theorem dX2_inner_73 : decode cX2_inner 73 = .ok (.iinc 7 1, 3) := by decide +kernel
theorem dX2_inner_76 : decode cX2_inner 76 = .ok (.goto (-29), 3) := by decide +kernel
theorem dX2_inner_79 : decode cX2_inner 79 = .ok (.lload 5, 2) := by decide +kernel
theorem dX2_inner_81 : decode cX2_inner 81 = .ok (.ldc2_w 115, 3) := by decide +kernel
theorem dX2_inner_84 : decode cX2_inner 84 = .ok (.invokestatic 121, 3) := by decide +kernel
theorem dX2_inner_87 : decode cX2_inner 87 = .ok (.lreturn, 1) := by decide +kernel
set_option maxRecDepth 20000 in
theorem ggX2_bound_X2_find : GoodIn wsX2_bound wsX2_find := goodIn_r _ [10, 11, 18, 19, 20, 21, 22, 23, 24] (by decide +kernel) (by decide +kernel)
set_option maxRecDepth 20000 in
theorem gX2_bound_X2_find : GoodIn wsX2_bound (wsV RX2 40 RX2 yX2_find wsX2_find) := goodIn_app (goodIn_of _ (by decide +kernel)) ggX2_bound_X2_find
set_option maxRecDepth 20000 in
theorem ggX2_bound_X1_at : GoodIn wsX2_bound wsX1_at := goodIn_r _ [16, 17, 25, 26] (by decide +kernel) (by decide +kernel)
set_option maxRecDepth 20000 in
theorem gX2_bound_X1_at : GoodIn wsX2_bound (wsV RX2 63 RX1 yX1_at wsX1_at) := goodIn_app (goodIn_of _ (by decide +kernel)) ggX2_bound_X1_at
theorem dX2_bound_0 : decode cX2_bound 0 = .ok (.aload_n 0, 1) := by decide +kernel
theorem dX2_bound_1 : decode cX2_bound 1 = .ok (.iload_n 1, 1) := by decide +kernel
theorem dX2_bound_2 : decode cX2_bound 2 = .ok (.invokevirtual 40, 3) := by decide +kernel
theorem dX2_bound_5 : decode cX2_bound 5 = .ok (.astore_n 2, 1) := by decide +kernel
theorem dX2_bound_6 : decode cX2_bound 6 = .ok (.aload_n 2, 1) := by decide +kernel
theorem dX2_bound_7 : decode cX2_bound 7 = .ok (.ifnonnull 7, 3) := by decide +kernel
theorem dX2_bound_10 : decode cX2_bound 10 = .ok (.ldc2_w 50, 3) := by decide +kernel
theorem dX2_bound_13 : decode cX2_bound 13 = .ok (.lreturn, 1) := by decide +kernel
theorem dX2_bound_14 : decode cX2_bound 14 = .ok (.lconst 0, 1) := by decide +kernel
theorem dX2_bound_15 : decode cX2_bound 15 = .ok (.lstore_n 3, 1) := by decide +kernel
theorem dX2_bound_16 : decode cX2_bound 16 = .ok (.iconst 0, 1) := by decide +kernel
theorem dX2_bound_17 : decode cX2_bound 17 = .ok (.istore 5, 2) := by decide +kernel
theorem dX2_bound_19 : decode cX2_bound 19 = .ok (.iload 5, 2) := by decide +kernel
theorem dX2_bound_21 : decode cX2_bound 21 = .ok (.bipush 24, 2) := by decide +kernel
theorem dX2_bound_23 : decode cX2_bound 23 = .ok (.if_icmp .gt 21, 3) := by decide +kernel
theorem dX2_bound_26 : decode cX2_bound 26 = .ok (.lload_n 3, 1) := by decide +kernel
theorem dX2_bound_27 : decode cX2_bound 27 = .ok (.aload_n 2, 1) := by decide +kernel
theorem dX2_bound_28 : decode cX2_bound 28 = .ok (.iload 5, 2) := by decide +kernel
theorem dX2_bound_30 : decode cX2_bound 30 = .ok (.invokevirtual 63, 3) := by decide +kernel
theorem dX2_bound_33 : decode cX2_bound 33 = .ok (.invokestatic 125, 3) := by decide +kernel
theorem dX2_bound_36 : decode cX2_bound 36 = .ok (.ladd, 1) := by decide +kernel
theorem dX2_bound_37 : decode cX2_bound 37 = .ok (.lstore_n 3, 1) := by decide +kernel
theorem dX2_bound_38 : decode cX2_bound 38 = .ok (.iinc 5 1, 3) := by decide +kernel
theorem dX2_bound_41 : decode cX2_bound 41 = .ok (.goto (-22), 3) := by decide +kernel
theorem dX2_bound_44 : decode cX2_bound 44 = .ok (.lload_n 3, 1) := by decide +kernel
theorem dX2_bound_45 : decode cX2_bound 45 = .ok (.lreturn, 1) := by decide +kernel
set_option maxRecDepth 20000 in
theorem ggX2_degreeWith_X2_find : GoodIn wsX2_degreeWith wsX2_find := goodIn_r _ [7, 8, 27, 28, 29, 30, 31, 32, 33] (by decide +kernel) (by decide +kernel)
set_option maxRecDepth 20000 in
theorem gX2_degreeWith_X2_find : GoodIn wsX2_degreeWith (wsV RX2 40 RX2 yX2_find wsX2_find) := goodIn_app (goodIn_of _ (by decide +kernel)) ggX2_degreeWith_X2_find
set_option maxRecDepth 20000 in
theorem ggX2_degreeWith_X2_isOutside : GoodIn wsX2_degreeWith wsX2_isOutside := goodIn_r _ [11] (by decide +kernel) (by decide +kernel)
set_option maxRecDepth 20000 in
theorem gX2_degreeWith_X2_isOutside : GoodIn wsX2_degreeWith (va_wsS RX2 44 yX2_isOutside wsX2_isOutside) := goodIn_app (goodIn_of _ (by decide +kernel)) ggX2_degreeWith_X2_isOutside
set_option maxRecDepth 20000 in
theorem ggX2_degreeWith_X1_topWithin : GoodIn wsX2_degreeWith wsX1_topWithin := goodIn_r _ [16, 17, 18, 19, 20, 21, 22, 23, 24, 15, 25, 26, 34, 35] (by decide +kernel) (by decide +kernel)
set_option maxRecDepth 20000 in
theorem gX2_degreeWith_X1_topWithin : GoodIn wsX2_degreeWith (wsV RX2 104 RX1 yX1_topWithin wsX1_topWithin) := goodIn_app (goodIn_of _ (by decide +kernel)) ggX2_degreeWith_X1_topWithin
theorem dX2_degreeWith_0 : decode cX2_degreeWith 0 = .ok (.aload_n 0, 1) := by decide +kernel
theorem dX2_degreeWith_1 : decode cX2_degreeWith 1 = .ok (.iload_n 1, 1) := by decide +kernel
theorem dX2_degreeWith_2 : decode cX2_degreeWith 2 = .ok (.invokevirtual 40, 3) := by decide +kernel
theorem dX2_degreeWith_5 : decode cX2_degreeWith 5 = .ok (.astore_n 3, 1) := by decide +kernel
theorem dX2_degreeWith_6 : decode cX2_degreeWith 6 = .ok (.aload_n 3, 1) := by decide +kernel
theorem dX2_degreeWith_7 : decode cX2_degreeWith 7 = .ok (.ifnull 13, 3) := by decide +kernel
theorem dX2_degreeWith_10 : decode cX2_degreeWith 10 = .ok (.iload_n 2, 1) := by decide +kernel
theorem dX2_degreeWith_11 : decode cX2_degreeWith 11 = .ok (.iconst 0, 1) := by decide +kernel
theorem dX2_degreeWith_12 : decode cX2_degreeWith 12 = .ok (.ldc 103, 2) := by decide +kernel
theorem dX2_degreeWith_14 : decode cX2_degreeWith 14 = .ok (.invokestatic 44, 3) := by decide +kernel
theorem dX2_degreeWith_17 : decode cX2_degreeWith 17 = .ok (.ifCond .eq 7, 3) := by decide +kernel
theorem dX2_degreeWith_20 : decode cX2_degreeWith 20 = .ok (.ldc2_w 50, 3) := by decide +kernel
theorem dX2_degreeWith_23 : decode cX2_degreeWith 23 = .ok (.lreturn, 1) := by decide +kernel
theorem dX2_degreeWith_24 : decode cX2_degreeWith 24 = .ok (.aload_n 3, 1) := by decide +kernel
theorem dX2_degreeWith_25 : decode cX2_degreeWith 25 = .ok (.iload_n 2, 1) := by decide +kernel
theorem dX2_degreeWith_26 : decode cX2_degreeWith 26 = .ok (.invokevirtual 104, 3) := by decide +kernel
theorem dX2_degreeWith_29 : decode cX2_degreeWith 29 = .ok (.i2l, 1) := by decide +kernel
theorem dX2_degreeWith_30 : decode cX2_degreeWith 30 = .ok (.lreturn, 1) := by decide +kernel
set_option maxRecDepth 20000 in
theorem ggX2_byValue_X2_find : GoodIn wsX2_byValue wsX2_find := goodIn_r _ [7, 8, 31, 32, 33, 34, 35, 36, 37] (by decide +kernel) (by decide +kernel)
set_option maxRecDepth 20000 in
theorem gX2_byValue_X2_find : GoodIn wsX2_byValue (wsV RX2 40 RX2 yX2_find wsX2_find) := goodIn_app (goodIn_of _ (by decide +kernel)) ggX2_byValue_X2_find
set_option maxRecDepth 20000 in
theorem ggX2_byValue_X2_isOutside : GoodIn wsX2_byValue wsX2_isOutside := goodIn_r _ [11] (by decide +kernel) (by decide +kernel)
set_option maxRecDepth 20000 in
theorem gX2_byValue_X2_isOutside : GoodIn wsX2_byValue (va_wsS RX2 44 yX2_isOutside wsX2_isOutside) := goodIn_app (goodIn_of _ (by decide +kernel)) ggX2_byValue_X2_isOutside
set_option maxRecDepth 20000 in
theorem ggX2_byValue_X1_top : GoodIn wsX2_byValue wsX1_top := goodIn_r _ [16, 17, 38, 39] (by decide +kernel) (by decide +kernel)
set_option maxRecDepth 20000 in
theorem gX2_byValue_X1_top : GoodIn wsX2_byValue (wsV RX2 59 RX1 yX1_top wsX1_top) := goodIn_app (goodIn_of _ (by decide +kernel)) ggX2_byValue_X1_top
set_option maxRecDepth 20000 in
theorem ggX2_byValue_X1_placeOf : GoodIn wsX2_byValue wsX1_placeOf := goodIn_r _ [21, 22, 23, 24, 25, 17, 26, 27, 28, 15, 29, 30, 38, 39] (by decide +kernel) (by decide +kernel)
set_option maxRecDepth 20000 in
theorem gX2_byValue_X1_placeOf : GoodIn wsX2_byValue (wsV RX2 130 RX1 yX1_placeOf wsX1_placeOf) := goodIn_app (goodIn_of _ (by decide +kernel)) ggX2_byValue_X1_placeOf
theorem dX2_byValue_0 : decode cX2_byValue 0 = .ok (.aload_n 0, 1) := by decide +kernel
theorem dX2_byValue_1 : decode cX2_byValue 1 = .ok (.iload_n 1, 1) := by decide +kernel
theorem dX2_byValue_2 : decode cX2_byValue 2 = .ok (.invokevirtual 40, 3) := by decide +kernel
theorem dX2_byValue_5 : decode cX2_byValue 5 = .ok (.astore_n 3, 1) := by decide +kernel
theorem dX2_byValue_6 : decode cX2_byValue 6 = .ok (.aload_n 3, 1) := by decide +kernel
theorem dX2_byValue_7 : decode cX2_byValue 7 = .ok (.ifnull 13, 3) := by decide +kernel
theorem dX2_byValue_10 : decode cX2_byValue 10 = .ok (.iload_n 2, 1) := by decide +kernel
theorem dX2_byValue_11 : decode cX2_byValue 11 = .ok (.iconst 0, 1) := by decide +kernel
theorem dX2_byValue_12 : decode cX2_byValue 12 = .ok (.bipush 24, 2) := by decide +kernel
theorem dX2_byValue_14 : decode cX2_byValue 14 = .ok (.invokestatic 44, 3) := by decide +kernel
theorem dX2_byValue_17 : decode cX2_byValue 17 = .ok (.ifCond .eq 7, 3) := by decide +kernel
theorem dX2_byValue_20 : decode cX2_byValue 20 = .ok (.ldc2_w 50, 3) := by decide +kernel
theorem dX2_byValue_23 : decode cX2_byValue 23 = .ok (.lreturn, 1) := by decide +kernel
theorem dX2_byValue_24 : decode cX2_byValue 24 = .ok (.iconst 0, 1) := by decide +kernel
theorem dX2_byValue_25 : decode cX2_byValue 25 = .ok (.istore 4, 2) := by decide +kernel
theorem dX2_byValue_27 : decode cX2_byValue 27 = .ok (.iload 4, 2) := by decide +kernel
theorem dX2_byValue_29 : decode cX2_byValue 29 = .ok (.aload_n 3, 1) := by decide +kernel
theorem dX2_byValue_30 : decode cX2_byValue 30 = .ok (.invokevirtual 59, 3) := by decide +kernel
theorem dX2_byValue_33 : decode cX2_byValue 33 = .ok (.if_icmp .gt 23, 3) := by decide +kernel
theorem dX2_byValue_36 : decode cX2_byValue 36 = .ok (.aload_n 3, 1) := by decide +kernel
theorem dX2_byValue_37 : decode cX2_byValue 37 = .ok (.iload 4, 2) := by decide +kernel
theorem dX2_byValue_39 : decode cX2_byValue 39 = .ok (.invokevirtual 130, 3) := by decide +kernel
theorem dX2_byValue_42 : decode cX2_byValue 42 = .ok (.iload_n 2, 1) := by decide +kernel
theorem dX2_byValue_43 : decode cX2_byValue 43 = .ok (.if_icmp .ne 7, 3) := by decide +kernel
theorem dX2_byValue_46 : decode cX2_byValue 46 = .ok (.iload 4, 2) := by decide +kernel
theorem dX2_byValue_48 : decode cX2_byValue 48 = .ok (.i2l, 1) := by decide +kernel
theorem dX2_byValue_49 : decode cX2_byValue 49 = .ok (.lreturn, 1) := by decide +kernel
theorem dX2_byValue_50 : decode cX2_byValue 50 = .ok (.iinc 4 1, 3) := by decide +kernel
theorem dX2_byValue_53 : decode cX2_byValue 53 = .ok (.goto (-26), 3) := by decide +kernel
theorem dX2_byValue_56 : decode cX2_byValue 56 = .ok (.ldc2_w 133, 3) := by decide +kernel
theorem dX2_byValue_59 : decode cX2_byValue 59 = .ok (.lreturn, 1) := by decide +kernel
set_option maxRecDepth 20000 in
theorem ggX2_interpolate_X2_find : GoodIn wsX2_interpolate wsX2_find := goodIn_r _ [9, 10, 79, 80, 81, 82, 83, 84, 85] (by decide +kernel) (by decide +kernel)
set_option maxRecDepth 20000 in
theorem gX2_interpolate_X2_find : GoodIn wsX2_interpolate (wsV RX2 40 RX2 yX2_find wsX2_find) := goodIn_app (goodIn_of _ (by decide +kernel)) ggX2_interpolate_X2_find
set_option maxRecDepth 20000 in
theorem ggX2_interpolate_X2_isOutside : GoodIn wsX2_interpolate wsX2_isOutside := goodIn_r _ [13] (by decide +kernel) (by decide +kernel)
set_option maxRecDepth 20000 in
theorem gX2_interpolate_X2_isOutside : GoodIn wsX2_interpolate (va_wsS RX2 44 yX2_isOutside wsX2_isOutside) := goodIn_app (goodIn_of _ (by decide +kernel)) ggX2_interpolate_X2_isOutside
set_option maxRecDepth 20000 in
theorem ggX2_interpolate_X1_clear : GoodIn wsX2_interpolate wsX1_clear := goodIn_r _ [18, 19, 20, 21, 22, 23, 24, 86, 87] (by decide +kernel) (by decide +kernel)
set_option maxRecDepth 20000 in
theorem gX2_interpolate_X1_clear : GoodIn wsX2_interpolate (wsV RX2 112 RX1 yX1_clear wsX1_clear) := goodIn_app (goodIn_of _ (by decide +kernel)) ggX2_interpolate_X1_clear
set_option maxRecDepth 20000 in
theorem ggX2_interpolate_X2_cosineSum : GoodIn wsX2_interpolate wsX2_cosineSum := goodIn_r _ [28, 29, 30, 31, 8, 32, 33, 34, 35, 36, 11, 12, 13, 79, 80, 81, 82, 83, 84, 85] (by decide +kernel) (by decide +kernel)
set_option maxRecDepth 20000 in
theorem gX2_interpolate_X2_cosineSum : GoodIn wsX2_interpolate (wsV RX2 137 RX2 yX2_cosineSum wsX2_cosineSum) := goodIn_app (goodIn_of _ (by decide +kernel)) ggX2_interpolate_X2_cosineSum
set_option maxRecDepth 20000 in
theorem ggX2_interpolate_X2_rounded : GoodIn wsX2_interpolate wsX2_rounded := goodIn_r _ [39, 3, 40, 41, 42, 43] (by decide +kernel) (by decide +kernel)
set_option maxRecDepth 20000 in
theorem gX2_interpolate_X2_rounded : GoodIn wsX2_interpolate (va_wsS RX2 121 yX2_rounded wsX2_rounded) := goodIn_app (goodIn_of _ (by decide +kernel)) ggX2_interpolate_X2_rounded
set_option maxRecDepth 20000 in
theorem ggX2_interpolate_X1_put : GoodIn wsX2_interpolate wsX1_put := goodIn_r _ [47, 19, 86, 87] (by decide +kernel) (by decide +kernel)
set_option maxRecDepth 20000 in
theorem gX2_interpolate_X1_put : GoodIn wsX2_interpolate (wsV RX2 52 RX1 yX1_put wsX1_put) := goodIn_app (goodIn_of _ (by decide +kernel)) ggX2_interpolate_X1_put
set_option maxRecDepth 20000 in
theorem ggX2_interpolate_X1_trim : GoodIn wsX2_interpolate wsX1_trim := goodIn_r _ [51, 20, 19, 86, 87] (by decide +kernel) (by decide +kernel)
set_option maxRecDepth 20000 in
theorem gX2_interpolate_X1_trim : GoodIn wsX2_interpolate (wsV RX2 56 RX1 yX1_trim wsX1_trim) := goodIn_app (goodIn_of _ (by decide +kernel)) ggX2_interpolate_X1_trim
set_option maxRecDepth 20000 in
theorem ggX2_interpolate_X2_keepMade : GoodIn wsX2_interpolate wsX2_keepMade := goodIn_r _ [55, 2, 56, 57, 58, 17, 59, 20, 60, 19, 61, 62, 63, 64, 65, 66, 67, 68, 69, 70, 71, 72, 73, 74, 75, 76, 77, 78, 79, 80, 81, 82, 83, 84, 85, 86, 87] (by decide +kernel) (by decide +kernel)
set_option maxRecDepth 20000 in
theorem gX2_interpolate_X2_keepMade : GoodIn wsX2_interpolate (wsV RX2 81 RX2 yX2_keepMade wsX2_keepMade) := goodIn_app (goodIn_of _ (by decide +kernel)) ggX2_interpolate_X2_keepMade
theorem dX2_interpolate_0 : decode cX2_interpolate 0 = .ok (.aload_n 0, 1) := by decide +kernel
theorem dX2_interpolate_1 : decode cX2_interpolate 1 = .ok (.iload_n 2, 1) := by decide +kernel
theorem dX2_interpolate_2 : decode cX2_interpolate 2 = .ok (.invokevirtual 40, 3) := by decide +kernel
theorem dX2_interpolate_5 : decode cX2_interpolate 5 = .ok (.astore_n 3, 1) := by decide +kernel
theorem dX2_interpolate_6 : decode cX2_interpolate 6 = .ok (.aload_n 3, 1) := by decide +kernel
theorem dX2_interpolate_7 : decode cX2_interpolate 7 = .ok (.ifnull 12, 3) := by decide +kernel
theorem dX2_interpolate_10 : decode cX2_interpolate 10 = .ok (.iload_n 1, 1) := by decide +kernel
theorem dX2_interpolate_11 : decode cX2_interpolate 11 = .ok (.iconst 0, 1) := by decide +kernel
theorem dX2_interpolate_12 : decode cX2_interpolate 12 = .ok (.iconst 4, 1) := by decide +kernel
theorem dX2_interpolate_13 : decode cX2_interpolate 13 = .ok (.invokestatic 44, 3) := by decide +kernel
theorem dX2_interpolate_16 : decode cX2_interpolate 16 = .ok (.ifCond .eq 7, 3) := by decide +kernel
theorem dX2_interpolate_19 : decode cX2_interpolate 19 = .ok (.ldc2_w 50, 3) := by decide +kernel
theorem dX2_interpolate_22 : decode cX2_interpolate 22 = .ok (.lreturn, 1) := by decide +kernel
theorem dX2_interpolate_23 : decode cX2_interpolate 23 = .ok (.iconst 1, 1) := by decide +kernel
theorem dX2_interpolate_24 : decode cX2_interpolate 24 = .ok (.iload_n 1, 1) := by decide +kernel
theorem dX2_interpolate_25 : decode cX2_interpolate 25 = .ok (.ishl, 1) := by decide +kernel
theorem dX2_interpolate_26 : decode cX2_interpolate 26 = .ok (.istore 4, 2) := by decide +kernel
theorem dX2_interpolate_28 : decode cX2_interpolate 28 = .ok (.aload_n 0, 1) := by decide +kernel
theorem dX2_interpolate_29 : decode cX2_interpolate 29 = .ok (.getfield 27, 3) := by decide +kernel
theorem dX2_interpolate_32 : decode cX2_interpolate 32 = .ok (.invokevirtual 112, 3) := by decide +kernel
theorem dX2_interpolate_35 : decode cX2_interpolate 35 = .ok (.iconst 0, 1) := by decide +kernel
theorem dX2_interpolate_36 : decode cX2_interpolate 36 = .ok (.istore 5, 2) := by decide +kernel
theorem dX2_interpolate_38 : decode cX2_interpolate 38 = .ok (.iload 5, 2) := by decide +kernel
theorem dX2_interpolate_40 : decode cX2_interpolate 40 = .ok (.iload 4, 2) := by decide +kernel
theorem dX2_interpolate_42 : decode cX2_interpolate 42 = .ok (.if_icmp .gt 62, 3) := by decide +kernel
theorem dX2_interpolate_45 : decode cX2_interpolate 45 = .ok (.iload 5, 2) := by decide +kernel
theorem dX2_interpolate_47 : decode cX2_interpolate 47 = .ok (.ifCond .eq 10, 3) := by decide +kernel
theorem dX2_interpolate_50 : decode cX2_interpolate 50 = .ok (.iload 5, 2) := by decide +kernel
theorem dX2_interpolate_52 : decode cX2_interpolate 52 = .ok (.iload 4, 2) := by decide +kernel
theorem dX2_interpolate_54 : decode cX2_interpolate 54 = .ok (.if_icmp .ne 7, 3) := by decide +kernel
theorem dX2_interpolate_57 : decode cX2_interpolate 57 = .ok (.iconst 1, 1) := by decide +kernel
theorem dX2_interpolate_58 : decode cX2_interpolate 58 = .ok (.goto 4, 3) := by decide +kernel
theorem dX2_interpolate_61 : decode cX2_interpolate 61 = .ok (.iconst 2, 1) := by decide +kernel
theorem dX2_interpolate_62 : decode cX2_interpolate 62 = .ok (.istore 6, 2) := by decide +kernel
theorem dX2_interpolate_64 : decode cX2_interpolate 64 = .ok (.aload_n 0, 1) := by decide +kernel
theorem dX2_interpolate_65 : decode cX2_interpolate 65 = .ok (.getfield 27, 3) := by decide +kernel
theorem dX2_interpolate_68 : decode cX2_interpolate 68 = .ok (.iload 5, 2) := by decide +kernel
theorem dX2_interpolate_70 : decode cX2_interpolate 70 = .ok (.iload 6, 2) := by decide +kernel
theorem dX2_interpolate_72 : decode cX2_interpolate 72 = .ok (.i2l, 1) := by decide +kernel
theorem dX2_interpolate_73 : decode cX2_interpolate 73 = .ok (.aload_n 0, 1) := by decide +kernel
theorem dX2_interpolate_74 : decode cX2_interpolate 74 = .ok (.iload_n 1, 1) := by decide +kernel
theorem dX2_interpolate_75 : decode cX2_interpolate 75 = .ok (.iload 5, 2) := by decide +kernel
theorem dX2_interpolate_77 : decode cX2_interpolate 77 = .ok (.invokevirtual 137, 3) := by decide +kernel
theorem dX2_interpolate_80 : decode cX2_interpolate 80 = .ok (.lmul, 1) := by decide +kernel
theorem dX2_interpolate_81 : decode cX2_interpolate 81 = .ok (.ldc2_w 117, 3) := by decide +kernel
theorem dX2_interpolate_84 : decode cX2_interpolate 84 = .ok (.iload 4, 2) := by decide +kernel
theorem dX2_interpolate_86 : decode cX2_interpolate 86 = .ok (.i2l, 1) := by decide +kernel
theorem dX2_interpolate_87 : decode cX2_interpolate 87 = .ok (.lmul, 1) := by decide +kernel
theorem dX2_interpolate_88 : decode cX2_interpolate 88 = .ok (.ldc2_w 115, 3) := by decide +kernel
theorem dX2_interpolate_91 : decode cX2_interpolate 91 = .ok (.lmul, 1) := by decide +kernel
theorem dX2_interpolate_92 : decode cX2_interpolate 92 = .ok (.invokestatic 121, 3) := by decide +kernel
theorem dX2_interpolate_95 : decode cX2_interpolate 95 = .ok (.invokevirtual 52, 3) := by decide +kernel
theorem dX2_interpolate_98 : decode cX2_interpolate 98 = .ok (.iinc 5 1, 3) := by decide +kernel
theorem dX2_interpolate_101 : decode cX2_interpolate 101 = .ok (.goto (-63), 3) := by decide +kernel
theorem dX2_interpolate_104 : decode cX2_interpolate 104 = .ok (.aload_n 0, 1) := by decide +kernel
theorem dX2_interpolate_105 : decode cX2_interpolate 105 = .ok (.getfield 27, 3) := by decide +kernel
theorem dX2_interpolate_108 : decode cX2_interpolate 108 = .ok (.invokevirtual 56, 3) := by decide +kernel
theorem dX2_interpolate_111 : decode cX2_interpolate 111 = .ok (.aload_n 0, 1) := by decide +kernel
theorem dX2_interpolate_112 : decode cX2_interpolate 112 = .ok (.aload_n 3, 1) := by decide +kernel
theorem dX2_interpolate_113 : decode cX2_interpolate 113 = .ok (.invokevirtual 81, 3) := by decide +kernel
theorem dX2_interpolate_116 : decode cX2_interpolate 116 = .ok (.lreturn, 1) := by decide +kernel
set_option maxRecDepth 20000 in
theorem ggX2_sample_X2_find : GoodIn wsX2_sample wsX2_find := goodIn_r _ [13, 14, 45, 46, 47, 48, 49, 50, 51] (by decide +kernel) (by decide +kernel)
set_option maxRecDepth 20000 in
theorem gX2_sample_X2_find : GoodIn wsX2_sample (wsV RX2 40 RX2 yX2_find wsX2_find) := goodIn_app (goodIn_of _ (by decide +kernel)) ggX2_sample_X2_find
set_option maxRecDepth 20000 in
theorem ggX2_sample_X2_isOutside : GoodIn wsX2_sample wsX2_isOutside := goodIn_r _ [17] (by decide +kernel) (by decide +kernel)
set_option maxRecDepth 20000 in
theorem gX2_sample_X2_isOutside : GoodIn wsX2_sample (va_wsS RX2 44 yX2_isOutside wsX2_isOutside) := goodIn_app (goodIn_of _ (by decide +kernel)) ggX2_sample_X2_isOutside
set_option maxRecDepth 20000 in
theorem ggX2_sample_X2_pointAt : GoodIn wsX2_sample wsX2_pointAt := goodIn_r _ [20, 21, 22, 12, 23, 24, 15, 16, 17] (by decide +kernel) (by decide +kernel)
set_option maxRecDepth 20000 in
theorem gX2_sample_X2_pointAt : GoodIn wsX2_sample (va_wsS RX2 141 yX2_pointAt wsX2_pointAt) := goodIn_app (goodIn_of _ (by decide +kernel)) ggX2_sample_X2_pointAt
set_option maxRecDepth 20000 in
theorem ggX2_sample_X1_valueAt : GoodIn wsX2_sample wsX1_valueAt := goodIn_r _ [29, 30, 31, 32, 33, 34, 35, 28, 36, 37, 38, 12, 39, 40, 41, 42, 43, 44, 52, 53] (by decide +kernel) (by decide +kernel)
set_option maxRecDepth 20000 in
theorem gX2_sample_X1_valueAt : GoodIn wsX2_sample (wsV RX2 73 RX1 yX1_valueAt wsX1_valueAt) := goodIn_app (goodIn_of _ (by decide +kernel)) ggX2_sample_X1_valueAt
theorem dX2_sample_0 : decode cX2_sample 0 = .ok (.aload_n 0, 1) := by decide +kernel
theorem dX2_sample_1 : decode cX2_sample 1 = .ok (.iload_n 1, 1) := by decide +kernel
theorem dX2_sample_2 : decode cX2_sample 2 = .ok (.invokevirtual 40, 3) := by decide +kernel
theorem dX2_sample_5 : decode cX2_sample 5 = .ok (.astore_n 3, 1) := by decide +kernel
theorem dX2_sample_6 : decode cX2_sample 6 = .ok (.aload_n 3, 1) := by decide +kernel
theorem dX2_sample_7 : decode cX2_sample 7 = .ok (.ifnull 12, 3) := by decide +kernel
theorem dX2_sample_10 : decode cX2_sample 10 = .ok (.iload_n 2, 1) := by decide +kernel
theorem dX2_sample_11 : decode cX2_sample 11 = .ok (.iconst 0, 1) := by decide +kernel
theorem dX2_sample_12 : decode cX2_sample 12 = .ok (.iconst 4, 1) := by decide +kernel
theorem dX2_sample_13 : decode cX2_sample 13 = .ok (.invokestatic 44, 3) := by decide +kernel
theorem dX2_sample_16 : decode cX2_sample 16 = .ok (.ifCond .eq 7, 3) := by decide +kernel
theorem dX2_sample_19 : decode cX2_sample 19 = .ok (.ldc2_w 50, 3) := by decide +kernel
theorem dX2_sample_22 : decode cX2_sample 22 = .ok (.lreturn, 1) := by decide +kernel
theorem dX2_sample_23 : decode cX2_sample 23 = .ok (.iconst 1, 1) := by decide +kernel
theorem dX2_sample_24 : decode cX2_sample 24 = .ok (.iload_n 2, 1) := by decide +kernel
theorem dX2_sample_25 : decode cX2_sample 25 = .ok (.ishl, 1) := by decide +kernel
theorem dX2_sample_26 : decode cX2_sample 26 = .ok (.istore 4, 2) := by decide +kernel
theorem dX2_sample_28 : decode cX2_sample 28 = .ok (.iconst 0, 1) := by decide +kernel
theorem dX2_sample_29 : decode cX2_sample 29 = .ok (.istore 5, 2) := by decide +kernel
theorem dX2_sample_31 : decode cX2_sample 31 = .ok (.iload 5, 2) := by decide +kernel
theorem dX2_sample_33 : decode cX2_sample 33 = .ok (.iload 4, 2) := by decide +kernel
theorem dX2_sample_35 : decode cX2_sample 35 = .ok (.if_icmp .gt 34, 3) := by decide +kernel
theorem dX2_sample_38 : decode cX2_sample 38 = .ok (.aload_n 3, 1) := by decide +kernel
theorem dX2_sample_39 : decode cX2_sample 39 = .ok (.iload_n 2, 1) := by decide +kernel
theorem dX2_sample_40 : decode cX2_sample 40 = .ok (.iload 5, 2) := by decide +kernel
theorem dX2_sample_42 : decode cX2_sample 42 = .ok (.invokestatic 141, 3) := by decide +kernel
theorem dX2_sample_45 : decode cX2_sample 45 = .ok (.i2l, 1) := by decide +kernel
theorem dX2_sample_46 : decode cX2_sample 46 = .ok (.invokevirtual 73, 3) := by decide +kernel
theorem dX2_sample_49 : decode cX2_sample 49 = .ok (.invokestatic 125, 3) := by decide +kernel
theorem dX2_sample_52 : decode cX2_sample 52 = .ok (.ldc2_w 145, 3) := by decide +kernel
theorem dX2_sample_55 : decode cX2_sample 55 = .ok (.lcmp, 1) := by decide +kernel
theorem dX2_sample_56 : decode cX2_sample 56 = .ok (.ifCond .le 7, 3) := by decide +kernel
theorem dX2_sample_59 : decode cX2_sample 59 = .ok (.ldc2_w 147, 3) := by decide +kernel
theorem dX2_sample_62 : decode cX2_sample 62 = .ok (.lreturn, 1) := by decide +kernel
theorem dX2_sample_63 : decode cX2_sample 63 = .ok (.iinc 5 1, 3) := by decide +kernel
theorem dX2_sample_66 : decode cX2_sample 66 = .ok (.goto (-35), 3) := by decide +kernel
theorem dX2_sample_69 : decode cX2_sample 69 = .ok (.iconst 0, 1) := by decide +kernel
theorem dX2_sample_70 : decode cX2_sample 70 = .ok (.istore 5, 2) := by decide +kernel
theorem dX2_sample_72 : decode cX2_sample 72 = .ok (.iload 5, 2) := by decide +kernel
theorem dX2_sample_74 : decode cX2_sample 74 = .ok (.iload 4, 2) := by decide +kernel
theorem dX2_sample_76 : decode cX2_sample 76 = .ok (.if_icmp .gt 37, 3) := by decide +kernel
theorem dX2_sample_79 : decode cX2_sample 79 = .ok (.iload 5, 2) := by decide +kernel
theorem dX2_sample_81 : decode cX2_sample 81 = .ok (.aload_n 0, 1) := by decide +kernel
theorem dX2_sample_82 : decode cX2_sample 82 = .ok (.getfield 15, 3) := by decide +kernel
theorem dX2_sample_85 : decode cX2_sample 85 = .ok (.arraylength, 1) := by decide +kernel
theorem dX2_sample_86 : decode cX2_sample 86 = .ok (.if_icmp .ge 27, 3) := by decide +kernel
theorem dX2_sample_89 : decode cX2_sample 89 = .ok (.aload_n 0, 1) := by decide +kernel
theorem dX2_sample_90 : decode cX2_sample 90 = .ok (.getfield 15, 3) := by decide +kernel
theorem dX2_sample_93 : decode cX2_sample 93 = .ok (.iload 5, 2) := by decide +kernel
theorem dX2_sample_95 : decode cX2_sample 95 = .ok (.aload_n 3, 1) := by decide +kernel
theorem dX2_sample_96 : decode cX2_sample 96 = .ok (.iload_n 2, 1) := by decide +kernel
theorem dX2_sample_97 : decode cX2_sample 97 = .ok (.iload 5, 2) := by decide +kernel
theorem dX2_sample_99 : decode cX2_sample 99 = .ok (.invokestatic 141, 3) := by decide +kernel
theorem dX2_sample_102 : decode cX2_sample 102 = .ok (.i2l, 1) := by decide +kernel
theorem dX2_sample_103 : decode cX2_sample 103 = .ok (.invokevirtual 73, 3) := by decide +kernel
theorem dX2_sample_106 : decode cX2_sample 106 = .ok (.lastore, 1) := by decide +kernel
theorem dX2_sample_107 : decode cX2_sample 107 = .ok (.iinc 5 1, 3) := by decide +kernel
theorem dX2_sample_110 : decode cX2_sample 110 = .ok (.goto (-38), 3) := by decide +kernel
theorem dX2_sample_113 : decode cX2_sample 113 = .ok (.iload 4, 2) := by decide +kernel
theorem dX2_sample_115 : decode cX2_sample 115 = .ok (.iconst 1, 1) := by decide +kernel
theorem dX2_sample_116 : decode cX2_sample 116 = .ok (.iadd, 1) := by decide +kernel
theorem dX2_sample_117 : decode cX2_sample 117 = .ok (.i2l, 1) := by decide +kernel
theorem dX2_sample_118 : decode cX2_sample 118 = .ok (.lreturn, 1) := by decide +kernel
set_option maxRecDepth 20000 in
theorem ggX2_misfit_X2_find : GoodIn wsX2_misfit wsX2_find := goodIn_r _ [14, 15, 46, 47, 48, 49, 50, 51, 52] (by decide +kernel) (by decide +kernel)
set_option maxRecDepth 20000 in
theorem gX2_misfit_X2_find : GoodIn wsX2_misfit (wsV RX2 40 RX2 yX2_find wsX2_find) := goodIn_app (goodIn_of _ (by decide +kernel)) ggX2_misfit_X2_find
set_option maxRecDepth 20000 in
theorem ggX2_misfit_X2_isOutside : GoodIn wsX2_misfit wsX2_isOutside := goodIn_r _ [18] (by decide +kernel) (by decide +kernel)
set_option maxRecDepth 20000 in
theorem gX2_misfit_X2_isOutside : GoodIn wsX2_misfit (va_wsS RX2 44 yX2_isOutside wsX2_isOutside) := goodIn_app (goodIn_of _ (by decide +kernel)) ggX2_misfit_X2_isOutside
set_option maxRecDepth 20000 in
theorem ggX2_misfit_X2_pointAt : GoodIn wsX2_misfit wsX2_pointAt := goodIn_r _ [21, 22, 23, 13, 24, 25, 16, 17, 18] (by decide +kernel) (by decide +kernel)
set_option maxRecDepth 20000 in
theorem gX2_misfit_X2_pointAt : GoodIn wsX2_misfit (va_wsS RX2 141 yX2_pointAt wsX2_pointAt) := goodIn_app (goodIn_of _ (by decide +kernel)) ggX2_misfit_X2_pointAt
set_option maxRecDepth 20000 in
theorem ggX2_misfit_X1_valueAt : GoodIn wsX2_misfit wsX1_valueAt := goodIn_r _ [30, 31, 32, 33, 34, 35, 36, 29, 37, 38, 39, 13, 40, 41, 42, 43, 44, 45, 53, 54] (by decide +kernel) (by decide +kernel)
set_option maxRecDepth 20000 in
theorem gX2_misfit_X1_valueAt : GoodIn wsX2_misfit (wsV RX2 73 RX1 yX1_valueAt wsX1_valueAt) := goodIn_app (goodIn_of _ (by decide +kernel)) ggX2_misfit_X1_valueAt
theorem dX2_misfit_0 : decode cX2_misfit 0 = .ok (.aload_n 0, 1) := by decide +kernel
theorem dX2_misfit_1 : decode cX2_misfit 1 = .ok (.iload_n 1, 1) := by decide +kernel
theorem dX2_misfit_2 : decode cX2_misfit 2 = .ok (.invokevirtual 40, 3) := by decide +kernel
theorem dX2_misfit_5 : decode cX2_misfit 5 = .ok (.astore_n 3, 1) := by decide +kernel
theorem dX2_misfit_6 : decode cX2_misfit 6 = .ok (.aload_n 3, 1) := by decide +kernel
theorem dX2_misfit_7 : decode cX2_misfit 7 = .ok (.ifnull 12, 3) := by decide +kernel
theorem dX2_misfit_10 : decode cX2_misfit 10 = .ok (.iload_n 2, 1) := by decide +kernel
theorem dX2_misfit_11 : decode cX2_misfit 11 = .ok (.iconst 0, 1) := by decide +kernel
theorem dX2_misfit_12 : decode cX2_misfit 12 = .ok (.iconst 4, 1) := by decide +kernel
theorem dX2_misfit_13 : decode cX2_misfit 13 = .ok (.invokestatic 44, 3) := by decide +kernel
theorem dX2_misfit_16 : decode cX2_misfit 16 = .ok (.ifCond .eq 7, 3) := by decide +kernel
theorem dX2_misfit_19 : decode cX2_misfit 19 = .ok (.ldc2_w 50, 3) := by decide +kernel
theorem dX2_misfit_22 : decode cX2_misfit 22 = .ok (.lreturn, 1) := by decide +kernel
theorem dX2_misfit_23 : decode cX2_misfit 23 = .ok (.iconst 1, 1) := by decide +kernel
theorem dX2_misfit_24 : decode cX2_misfit 24 = .ok (.iload_n 2, 1) := by decide +kernel
theorem dX2_misfit_25 : decode cX2_misfit 25 = .ok (.ishl, 1) := by decide +kernel
theorem dX2_misfit_26 : decode cX2_misfit 26 = .ok (.istore 4, 2) := by decide +kernel
theorem dX2_misfit_28 : decode cX2_misfit 28 = .ok (.lconst 0, 1) := by decide +kernel
theorem dX2_misfit_29 : decode cX2_misfit 29 = .ok (.lstore 5, 2) := by decide +kernel
theorem dX2_misfit_31 : decode cX2_misfit 31 = .ok (.iconst 0, 1) := by decide +kernel
theorem dX2_misfit_32 : decode cX2_misfit 32 = .ok (.istore 7, 2) := by decide +kernel
theorem dX2_misfit_34 : decode cX2_misfit 34 = .ok (.iload 7, 2) := by decide +kernel
theorem dX2_misfit_36 : decode cX2_misfit 36 = .ok (.iload 4, 2) := by decide +kernel
theorem dX2_misfit_38 : decode cX2_misfit 38 = .ok (.if_icmp .gt 48, 3) := by decide +kernel
theorem dX2_misfit_41 : decode cX2_misfit 41 = .ok (.iload 7, 2) := by decide +kernel
theorem dX2_misfit_43 : decode cX2_misfit 43 = .ok (.aload_n 0, 1) := by decide +kernel
theorem dX2_misfit_44 : decode cX2_misfit 44 = .ok (.getfield 15, 3) := by decide +kernel
theorem dX2_misfit_47 : decode cX2_misfit 47 = .ok (.arraylength, 1) := by decide +kernel
theorem dX2_misfit_48 : decode cX2_misfit 48 = .ok (.if_icmp .ge 38, 3) := by decide +kernel
theorem dX2_misfit_51 : decode cX2_misfit 51 = .ok (.lload 5, 2) := by decide +kernel
theorem dX2_misfit_53 : decode cX2_misfit 53 = .ok (.aload_n 3, 1) := by decide +kernel
theorem dX2_misfit_54 : decode cX2_misfit 54 = .ok (.iload_n 2, 1) := by decide +kernel
theorem dX2_misfit_55 : decode cX2_misfit 55 = .ok (.iload 7, 2) := by decide +kernel
theorem dX2_misfit_57 : decode cX2_misfit 57 = .ok (.invokestatic 141, 3) := by decide +kernel
theorem dX2_misfit_60 : decode cX2_misfit 60 = .ok (.i2l, 1) := by decide +kernel
theorem dX2_misfit_61 : decode cX2_misfit 61 = .ok (.invokevirtual 73, 3) := by decide +kernel
theorem dX2_misfit_64 : decode cX2_misfit 64 = .ok (.aload_n 0, 1) := by decide +kernel
theorem dX2_misfit_65 : decode cX2_misfit 65 = .ok (.getfield 15, 3) := by decide +kernel
theorem dX2_misfit_68 : decode cX2_misfit 68 = .ok (.iload 7, 2) := by decide +kernel
theorem dX2_misfit_70 : decode cX2_misfit 70 = .ok (.laload, 1) := by decide +kernel
theorem dX2_misfit_71 : decode cX2_misfit 71 = .ok (.lsub, 1) := by decide +kernel
theorem dX2_misfit_72 : decode cX2_misfit 72 = .ok (.invokestatic 125, 3) := by decide +kernel
theorem dX2_misfit_75 : decode cX2_misfit 75 = .ok (.invokestatic 149, 3) := by decide +kernel
theorem dX2_misfit_78 : decode cX2_misfit 78 = .ok (.lstore 5, 2) := by decide +kernel
theorem dX2_misfit_80 : decode cX2_misfit 80 = .ok (.iinc 7 1, 3) := by decide +kernel
theorem dX2_misfit_83 : decode cX2_misfit 83 = .ok (.goto (-49), 3) := by decide +kernel
theorem dX2_misfit_86 : decode cX2_misfit 86 = .ok (.lload 5, 2) := by decide +kernel
theorem dX2_misfit_88 : decode cX2_misfit 88 = .ok (.lreturn, 1) := by decide +kernel
set_option maxRecDepth 20000 in
theorem ggX2_extremePoint_X2_isOutside : GoodIn wsX2_extremePoint wsX2_isOutside := goodIn_r _ [5] (by decide +kernel) (by decide +kernel)
set_option maxRecDepth 20000 in
theorem gX2_extremePoint_X2_isOutside : GoodIn wsX2_extremePoint (va_wsS RX2 44 yX2_isOutside wsX2_isOutside) := goodIn_app (goodIn_of _ (by decide +kernel)) ggX2_extremePoint_X2_isOutside
set_option maxRecDepth 20000 in
theorem ggX2_extremePoint_X2_pointAt : GoodIn wsX2_extremePoint wsX2_pointAt := goodIn_r _ [8, 9, 10, 4, 11, 12, 2, 3, 5] (by decide +kernel) (by decide +kernel)
set_option maxRecDepth 20000 in
theorem gX2_extremePoint_X2_pointAt : GoodIn wsX2_extremePoint (va_wsS RX2 141 yX2_pointAt wsX2_pointAt) := goodIn_app (goodIn_of _ (by decide +kernel)) ggX2_extremePoint_X2_pointAt
theorem dX2_extremePoint_0 : decode cX2_extremePoint 0 = .ok (.iload_n 1, 1) := by decide +kernel
theorem dX2_extremePoint_1 : decode cX2_extremePoint 1 = .ok (.iconst 0, 1) := by decide +kernel
theorem dX2_extremePoint_2 : decode cX2_extremePoint 2 = .ok (.iconst 4, 1) := by decide +kernel
theorem dX2_extremePoint_3 : decode cX2_extremePoint 3 = .ok (.invokestatic 44, 3) := by decide +kernel
theorem dX2_extremePoint_6 : decode cX2_extremePoint 6 = .ok (.ifCond .ne 14, 3) := by decide +kernel
theorem dX2_extremePoint_9 : decode cX2_extremePoint 9 = .ok (.iload_n 2, 1) := by decide +kernel
theorem dX2_extremePoint_10 : decode cX2_extremePoint 10 = .ok (.iconst 0, 1) := by decide +kernel
theorem dX2_extremePoint_11 : decode cX2_extremePoint 11 = .ok (.iconst 1, 1) := by decide +kernel
theorem dX2_extremePoint_12 : decode cX2_extremePoint 12 = .ok (.iload_n 1, 1) := by decide +kernel
