theorem dX3_basis_32 : decode cX3_basis 32 = .ok (.ldc2_w 45, 3) := by decide +kernel
theorem dX3_basis_35 : decode cX3_basis 35 = .ok (.invokevirtual 49, 3) := by decide +kernel
theorem dX3_basis_38 : decode cX3_basis 38 = .ok (.iload_n 1, 1) := by decide +kernel
theorem dX3_basis_39 : decode cX3_basis 39 = .ok (.i2l, 1) := by decide +kernel
theorem dX3_basis_40 : decode cX3_basis 40 = .ok (.lreturn, 1) := by decide +kernel
set_option maxRecDepth 20000 in
theorem ggX3_integral_X3_isSeries : GoodIn wsX3_integral wsX3_isSeries := goodIn_r _ [8, 9, 10, 11, 7, 12] (by decide +kernel) (by decide +kernel)
set_option maxRecDepth 20000 in
theorem gX3_integral_X3_isSeries : GoodIn wsX3_integral (va_wsS RX3 75 yX3_isSeries wsX3_isSeries) := goodIn_app (goodIn_of _ (by decide +kernel)) ggX3_integral_X3_isSeries
set_option maxRecDepth 20000 in
theorem ggX3_integral_X3_of : GoodIn wsX3_integral wsX3_of := goodIn_r _ [16, 17, 21, 22, 23, 24, 25, 26, 27, 28] (by decide +kernel) (by decide +kernel)
set_option maxRecDepth 20000 in
theorem gX3_integral_X3_of : GoodIn wsX3_integral (wsV RX3 53 RX3 yX3_of wsX3_of) := goodIn_app (goodIn_of _ (by decide +kernel)) ggX3_integral_X3_of
set_option maxRecDepth 20000 in
theorem ggX3_integral_X3_rounded : GoodIn wsX3_integral wsX3_rounded := goodIn_r _ [20, 2] (by decide +kernel) (by decide +kernel)
set_option maxRecDepth 20000 in
theorem gX3_integral_X3_rounded : GoodIn wsX3_integral (va_wsS RX3 88 yX3_rounded wsX3_rounded) := goodIn_app (goodIn_of _ (by decide +kernel)) ggX3_integral_X3_rounded
theorem dX3_integral_0 : decode cX3_integral 0 = .ok (.iload_n 1, 1) := by decide +kernel
theorem dX3_integral_1 : decode cX3_integral 1 = .ok (.invokestatic 75, 3) := by decide +kernel
theorem dX3_integral_4 : decode cX3_integral 4 = .ok (.ifCond .ne 7, 3) := by decide +kernel
theorem dX3_integral_7 : decode cX3_integral 7 = .ok (.ldc2_w 83, 3) := by decide +kernel
theorem dX3_integral_10 : decode cX3_integral 10 = .ok (.lreturn, 1) := by decide +kernel
theorem dX3_integral_11 : decode cX3_integral 11 = .ok (.ldc2_w 47, 3) := by decide +kernel
theorem dX3_integral_14 : decode cX3_integral 14 = .ok (.aload_n 0, 1) := by decide +kernel
theorem dX3_integral_15 : decode cX3_integral 15 = .ok (.iload_n 1, 1) := by decide +kernel
theorem dX3_integral_16 : decode cX3_integral 16 = .ok (.iconst 0, 1) := by decide +kernel
theorem dX3_integral_17 : decode cX3_integral 17 = .ok (.invokevirtual 53, 3) := by decide +kernel
theorem dX3_integral_20 : decode cX3_integral 20 = .ok (.lmul, 1) := by decide +kernel
theorem dX3_integral_21 : decode cX3_integral 21 = .ok (.lstore_n 2, 1) := by decide +kernel
theorem dX3_integral_22 : decode cX3_integral 22 = .ok (.iconst 2, 1) := by decide +kernel
theorem dX3_integral_23 : decode cX3_integral 23 = .ok (.istore 4, 2) := by decide +kernel
theorem dX3_integral_25 : decode cX3_integral 25 = .ok (.iload 4, 2) := by decide +kernel
theorem dX3_integral_27 : decode cX3_integral 27 = .ok (.aload_n 0, 1) := by decide +kernel
theorem dX3_integral_28 : decode cX3_integral 28 = .ok (.getfield 13, 3) := by decide +kernel
theorem dX3_integral_31 : decode cX3_integral 31 = .ok (.iload_n 1, 1) := by decide +kernel
theorem dX3_integral_32 : decode cX3_integral 32 = .ok (.iaload, 1) := by decide +kernel
theorem dX3_integral_33 : decode cX3_integral 33 = .ok (.if_icmp .gt 35, 3) := by decide +kernel
theorem dX3_integral_36 : decode cX3_integral 36 = .ok (.lload_n 2, 1) := by decide +kernel
theorem dX3_integral_37 : decode cX3_integral 37 = .ok (.ldc2_w 128, 3) := by decide +kernel
theorem dX3_integral_40 : decode cX3_integral 40 = .ok (.aload_n 0, 1) := by decide +kernel
theorem dX3_integral_41 : decode cX3_integral 41 = .ok (.iload_n 1, 1) := by decide +kernel
theorem dX3_integral_42 : decode cX3_integral 42 = .ok (.iload 4, 2) := by decide +kernel
theorem dX3_integral_44 : decode cX3_integral 44 = .ok (.invokevirtual 53, 3) := by decide +kernel
theorem dX3_integral_47 : decode cX3_integral 47 = .ok (.lmul, 1) := by decide +kernel
theorem dX3_integral_48 : decode cX3_integral 48 = .ok (.iload 4, 2) := by decide +kernel
theorem dX3_integral_50 : decode cX3_integral 50 = .ok (.i2l, 1) := by decide +kernel
theorem dX3_integral_51 : decode cX3_integral 51 = .ok (.iload 4, 2) := by decide +kernel
theorem dX3_integral_53 : decode cX3_integral 53 = .ok (.i2l, 1) := by decide +kernel
theorem dX3_integral_54 : decode cX3_integral 54 = .ok (.lmul, 1) := by decide +kernel
theorem dX3_integral_55 : decode cX3_integral 55 = .ok (.lconst 1, 1) := by decide +kernel
theorem dX3_integral_56 : decode cX3_integral 56 = .ok (.lsub, 1) := by decide +kernel
theorem dX3_integral_57 : decode cX3_integral 57 = .ok (.invokestatic 88, 3) := by decide +kernel
theorem dX3_integral_60 : decode cX3_integral 60 = .ok (.ladd, 1) := by decide +kernel
theorem dX3_integral_61 : decode cX3_integral 61 = .ok (.lstore_n 2, 1) := by decide +kernel
theorem dX3_integral_62 : decode cX3_integral 62 = .ok (.iinc 4 2, 3) := by decide +kernel
theorem dX3_integral_65 : decode cX3_integral 65 = .ok (.goto (-40), 3) := by decide +kernel
theorem dX3_integral_68 : decode cX3_integral 68 = .ok (.lload_n 2, 1) := by decide +kernel
theorem dX3_integral_69 : decode cX3_integral 69 = .ok (.lreturn, 1) := by decide +kernel
set_option maxRecDepth 20000 in
theorem ggX3_inner_X3_isSeries : GoodIn wsX3_inner wsX3_isSeries := goodIn_r _ [6, 7, 8, 9, 5, 10] (by decide +kernel) (by decide +kernel)
set_option maxRecDepth 20000 in
theorem gX3_inner_X3_isSeries : GoodIn wsX3_inner (va_wsS RX3 75 yX3_isSeries wsX3_isSeries) := goodIn_app (goodIn_of _ (by decide +kernel)) ggX3_inner_X3_isSeries
set_option maxRecDepth 20000 in
theorem ggX3_inner_X3_of : GoodIn wsX3_inner wsX3_of := goodIn_r _ [14, 15, 20, 21, 22, 23, 24, 25, 26, 27] (by decide +kernel) (by decide +kernel)
set_option maxRecDepth 20000 in
theorem gX3_inner_X3_of : GoodIn wsX3_inner (wsV RX3 53 RX3 yX3_of wsX3_of) := goodIn_app (goodIn_of _ (by decide +kernel)) ggX3_inner_X3_of
set_option maxRecDepth 20000 in
theorem ggX3_inner_X3_rounded : GoodIn wsX3_inner wsX3_rounded := goodIn_r _ [18, 19] (by decide +kernel) (by decide +kernel)
set_option maxRecDepth 20000 in
theorem gX3_inner_X3_rounded : GoodIn wsX3_inner (va_wsS RX3 88 yX3_rounded wsX3_rounded) := goodIn_app (goodIn_of _ (by decide +kernel)) ggX3_inner_X3_rounded
theorem dX3_inner_0 : decode cX3_inner 0 = .ok (.iload_n 1, 1) := by decide +kernel
theorem dX3_inner_1 : decode cX3_inner 1 = .ok (.invokestatic 75, 3) := by decide +kernel
theorem dX3_inner_4 : decode cX3_inner 4 = .ok (.ifCond .eq 10, 3) := by decide +kernel
theorem dX3_inner_7 : decode cX3_inner 7 = .ok (.iload_n 2, 1) := by decide +kernel
theorem dX3_inner_8 : decode cX3_inner 8 = .ok (.invokestatic 75, 3) := by decide +kernel
theorem dX3_inner_11 : decode cX3_inner 11 = .ok (.ifCond .ne 7, 3) := by decide +kernel
theorem dX3_inner_14 : decode cX3_inner 14 = .ok (.ldc2_w 83, 3) := by decide +kernel
theorem dX3_inner_17 : decode cX3_inner 17 = .ok (.lreturn, 1) := by decide +kernel
theorem dX3_inner_18 : decode cX3_inner 18 = .ok (.aload_n 0, 1) := by decide +kernel
theorem dX3_inner_19 : decode cX3_inner 19 = .ok (.iload_n 1, 1) := by decide +kernel
theorem dX3_inner_20 : decode cX3_inner 20 = .ok (.iconst 0, 1) := by decide +kernel
theorem dX3_inner_21 : decode cX3_inner 21 = .ok (.invokevirtual 53, 3) := by decide +kernel
theorem dX3_inner_24 : decode cX3_inner 24 = .ok (.aload_n 0, 1) := by decide +kernel
theorem dX3_inner_25 : decode cX3_inner 25 = .ok (.iload_n 2, 1) := by decide +kernel
theorem dX3_inner_26 : decode cX3_inner 26 = .ok (.iconst 0, 1) := by decide +kernel
theorem dX3_inner_27 : decode cX3_inner 27 = .ok (.invokevirtual 53, 3) := by decide +kernel
theorem dX3_inner_30 : decode cX3_inner 30 = .ok (.lmul, 1) := by decide +kernel
theorem dX3_inner_31 : decode cX3_inner 31 = .ok (.lstore_n 3, 1) := by decide +kernel
theorem dX3_inner_32 : decode cX3_inner 32 = .ok (.iconst 0, 1) := by decide +kernel
theorem dX3_inner_33 : decode cX3_inner 33 = .ok (.istore 5, 2) := by decide +kernel
theorem dX3_inner_35 : decode cX3_inner 35 = .ok (.iload 5, 2) := by decide +kernel
theorem dX3_inner_37 : decode cX3_inner 37 = .ok (.bipush 24, 2) := by decide +kernel
theorem dX3_inner_39 : decode cX3_inner 39 = .ok (.if_icmp .gt 27, 3) := by decide +kernel
theorem dX3_inner_42 : decode cX3_inner 42 = .ok (.lload_n 3, 1) := by decide +kernel
theorem dX3_inner_43 : decode cX3_inner 43 = .ok (.aload_n 0, 1) := by decide +kernel
theorem dX3_inner_44 : decode cX3_inner 44 = .ok (.iload_n 1, 1) := by decide +kernel
theorem dX3_inner_45 : decode cX3_inner 45 = .ok (.iload 5, 2) := by decide +kernel
theorem dX3_inner_47 : decode cX3_inner 47 = .ok (.invokevirtual 53, 3) := by decide +kernel
theorem dX3_inner_50 : decode cX3_inner 50 = .ok (.aload_n 0, 1) := by decide +kernel
theorem dX3_inner_51 : decode cX3_inner 51 = .ok (.iload_n 2, 1) := by decide +kernel
theorem dX3_inner_52 : decode cX3_inner 52 = .ok (.iload 5, 2) := by decide +kernel
theorem dX3_inner_54 : decode cX3_inner 54 = .ok (.invokevirtual 53, 3) := by decide +kernel
theorem dX3_inner_57 : decode cX3_inner 57 = .ok (.lmul, 1) := by decide +kernel
theorem dX3_inner_58 : decode cX3_inner 58 = .ok (.ladd, 1) := by decide +kernel
theorem dX3_inner_59 : decode cX3_inner 59 = .ok (.lstore_n 3, 1) := by decide +kernel
theorem dX3_inner_60 : decode cX3_inner 60 = .ok (.iinc 5 1, 3) := by decide +kernel
theorem dX3_inner_63 : decode cX3_inner 63 = .ok (.goto (-28), 3) := by decide +kernel
theorem dX3_inner_66 : decode cX3_inner 66 = .ok (.lload_n 3, 1) := by decide +kernel
theorem dX3_inner_67 : decode cX3_inner 67 = .ok (.ldc2_w 45, 3) := by decide +kernel
theorem dX3_inner_70 : decode cX3_inner 70 = .ok (.invokestatic 88, 3) := by decide +kernel
theorem dX3_inner_73 : decode cX3_inner 73 = .ok (.lreturn, 1) := by decide +kernel
set_option maxRecDepth 20000 in
theorem ggX3_bound_X3_isSeries : GoodIn wsX3_bound wsX3_isSeries := goodIn_r _ [5, 6, 7, 8, 4, 9] (by decide +kernel) (by decide +kernel)
set_option maxRecDepth 20000 in
theorem gX3_bound_X3_isSeries : GoodIn wsX3_bound (va_wsS RX3 75 yX3_isSeries wsX3_isSeries) := goodIn_app (goodIn_of _ (by decide +kernel)) ggX3_bound_X3_isSeries
set_option maxRecDepth 20000 in
theorem ggX3_bound_X3_of : GoodIn wsX3_bound wsX3_of := goodIn_r _ [13, 14, 18, 19, 20, 21, 22, 23, 24, 25] (by decide +kernel) (by decide +kernel)
set_option maxRecDepth 20000 in
theorem gX3_bound_X3_of : GoodIn wsX3_bound (wsV RX3 53 RX3 yX3_of wsX3_of) := goodIn_app (goodIn_of _ (by decide +kernel)) ggX3_bound_X3_of
set_option maxRecDepth 20000 in
theorem ggX3_bound_X3_size : GoodIn wsX3_bound wsX3_size := goodIn_r _ [17] (by decide +kernel) (by decide +kernel)
set_option maxRecDepth 20000 in
theorem gX3_bound_X3_size : GoodIn wsX3_bound (va_wsS RX3 59 yX3_size wsX3_size) := goodIn_app (goodIn_of _ (by decide +kernel)) ggX3_bound_X3_size
theorem dX3_bound_0 : decode cX3_bound 0 = .ok (.iload_n 1, 1) := by decide +kernel
theorem dX3_bound_1 : decode cX3_bound 1 = .ok (.invokestatic 75, 3) := by decide +kernel
theorem dX3_bound_4 : decode cX3_bound 4 = .ok (.ifCond .ne 7, 3) := by decide +kernel
theorem dX3_bound_7 : decode cX3_bound 7 = .ok (.ldc2_w 83, 3) := by decide +kernel
theorem dX3_bound_10 : decode cX3_bound 10 = .ok (.lreturn, 1) := by decide +kernel
theorem dX3_bound_11 : decode cX3_bound 11 = .ok (.lconst 0, 1) := by decide +kernel
theorem dX3_bound_12 : decode cX3_bound 12 = .ok (.lstore_n 2, 1) := by decide +kernel
theorem dX3_bound_13 : decode cX3_bound 13 = .ok (.iconst 0, 1) := by decide +kernel
theorem dX3_bound_14 : decode cX3_bound 14 = .ok (.istore 4, 2) := by decide +kernel
theorem dX3_bound_16 : decode cX3_bound 16 = .ok (.iload 4, 2) := by decide +kernel
theorem dX3_bound_18 : decode cX3_bound 18 = .ok (.bipush 24, 2) := by decide +kernel
theorem dX3_bound_20 : decode cX3_bound 20 = .ok (.if_icmp .gt 22, 3) := by decide +kernel
theorem dX3_bound_23 : decode cX3_bound 23 = .ok (.lload_n 2, 1) := by decide +kernel
theorem dX3_bound_24 : decode cX3_bound 24 = .ok (.aload_n 0, 1) := by decide +kernel
theorem dX3_bound_25 : decode cX3_bound 25 = .ok (.iload_n 1, 1) := by decide +kernel
theorem dX3_bound_26 : decode cX3_bound 26 = .ok (.iload 4, 2) := by decide +kernel
theorem dX3_bound_28 : decode cX3_bound 28 = .ok (.invokevirtual 53, 3) := by decide +kernel
theorem dX3_bound_31 : decode cX3_bound 31 = .ok (.invokestatic 59, 3) := by decide +kernel
theorem dX3_bound_34 : decode cX3_bound 34 = .ok (.ladd, 1) := by decide +kernel
theorem dX3_bound_35 : decode cX3_bound 35 = .ok (.lstore_n 2, 1) := by decide +kernel
theorem dX3_bound_36 : decode cX3_bound 36 = .ok (.iinc 4 1, 3) := by decide +kernel
theorem dX3_bound_39 : decode cX3_bound 39 = .ok (.goto (-23), 3) := by decide +kernel
theorem dX3_bound_42 : decode cX3_bound 42 = .ok (.lload_n 2, 1) := by decide +kernel
theorem dX3_bound_43 : decode cX3_bound 43 = .ok (.lreturn, 1) := by decide +kernel
set_option maxRecDepth 20000 in
theorem ggX3_degreeWith_X3_isSeries : GoodIn wsX3_degreeWith wsX3_isSeries := goodIn_r _ [5, 6, 7, 8, 4, 9] (by decide +kernel) (by decide +kernel)
set_option maxRecDepth 20000 in
theorem gX3_degreeWith_X3_isSeries : GoodIn wsX3_degreeWith (va_wsS RX3 75 yX3_isSeries wsX3_isSeries) := goodIn_app (goodIn_of _ (by decide +kernel)) ggX3_degreeWith_X3_isSeries
set_option maxRecDepth 20000 in
theorem ggX3_degreeWith_X3_isTolerance : GoodIn wsX3_degreeWith wsX3_isTolerance := goodIn_r _ [12, 13, 7, 8, 4, 9] (by decide +kernel) (by decide +kernel)
set_option maxRecDepth 20000 in
theorem gX3_degreeWith_X3_isTolerance : GoodIn wsX3_degreeWith (va_wsS RX3 121 yX3_isTolerance wsX3_isTolerance) := goodIn_app (goodIn_of _ (by decide +kernel)) ggX3_degreeWith_X3_isTolerance
set_option maxRecDepth 20000 in
theorem ggX3_degreeWith_X3_cutBy : GoodIn wsX3_degreeWith wsX3_cutBy := goodIn_r _ [17, 18, 19, 20, 21, 4, 22, 23, 24, 25, 26, 27, 28, 29, 30, 31, 32, 33, 34] (by decide +kernel) (by decide +kernel)
set_option maxRecDepth 20000 in
theorem gX3_degreeWith_X3_cutBy : GoodIn wsX3_degreeWith (wsV RX3 124 RX3 yX3_cutBy wsX3_cutBy) := goodIn_app (goodIn_of _ (by decide +kernel)) ggX3_degreeWith_X3_cutBy
theorem dX3_degreeWith_0 : decode cX3_degreeWith 0 = .ok (.iload_n 1, 1) := by decide +kernel
theorem dX3_degreeWith_1 : decode cX3_degreeWith 1 = .ok (.invokestatic 75, 3) := by decide +kernel
theorem dX3_degreeWith_4 : decode cX3_degreeWith 4 = .ok (.ifCond .eq 21, 3) := by decide +kernel
theorem dX3_degreeWith_7 : decode cX3_degreeWith 7 = .ok (.iload_n 2, 1) := by decide +kernel
theorem dX3_degreeWith_8 : decode cX3_degreeWith 8 = .ok (.invokestatic 121, 3) := by decide +kernel
theorem dX3_degreeWith_11 : decode cX3_degreeWith 11 = .ok (.ifCond .eq 14, 3) := by decide +kernel
theorem dX3_degreeWith_14 : decode cX3_degreeWith 14 = .ok (.aload_n 0, 1) := by decide +kernel
theorem dX3_degreeWith_15 : decode cX3_degreeWith 15 = .ok (.iload_n 1, 1) := by decide +kernel
theorem dX3_degreeWith_16 : decode cX3_degreeWith 16 = .ok (.iload_n 2, 1) := by decide +kernel
theorem dX3_degreeWith_17 : decode cX3_degreeWith 17 = .ok (.i2l, 1) := by decide +kernel
theorem dX3_degreeWith_18 : decode cX3_degreeWith 18 = .ok (.invokevirtual 124, 3) := by decide +kernel
theorem dX3_degreeWith_21 : decode cX3_degreeWith 21 = .ok (.i2l, 1) := by decide +kernel
theorem dX3_degreeWith_22 : decode cX3_degreeWith 22 = .ok (.goto 6, 3) := by decide +kernel
theorem dX3_degreeWith_25 : decode cX3_degreeWith 25 = .ok (.ldc2_w 83, 3) := by decide +kernel
theorem dX3_degreeWith_28 : decode cX3_degreeWith 28 = .ok (.lreturn, 1) := by decide +kernel
set_option maxRecDepth 20000 in
theorem ggX3_byValue_X3_isSeries : GoodIn wsX3_byValue wsX3_isSeries := goodIn_r _ [8, 9, 10, 11, 7, 12] (by decide +kernel) (by decide +kernel)
set_option maxRecDepth 20000 in
theorem gX3_byValue_X3_isSeries : GoodIn wsX3_byValue (va_wsS RX3 75 yX3_isSeries wsX3_isSeries) := goodIn_app (goodIn_of _ (by decide +kernel)) ggX3_byValue_X3_isSeries
set_option maxRecDepth 20000 in
theorem ggX3_byValue_X3_in : GoodIn wsX3_byValue wsX3_in := goodIn_r _ [12] (by decide +kernel) (by decide +kernel)
set_option maxRecDepth 20000 in
theorem gX3_byValue_X3_in : GoodIn wsX3_byValue (va_wsS RX3 39 yX3_in wsX3_in) := goodIn_app (goodIn_of _ (by decide +kernel)) ggX3_byValue_X3_in
set_option maxRecDepth 20000 in
theorem ggX3_byValue_X3_of : GoodIn wsX3_byValue wsX3_of := goodIn_r _ [16, 17, 21, 22, 23, 24, 25, 26, 27, 28] (by decide +kernel) (by decide +kernel)
set_option maxRecDepth 20000 in
theorem gX3_byValue_X3_of : GoodIn wsX3_byValue (wsV RX3 53 RX3 yX3_of wsX3_of) := goodIn_app (goodIn_of _ (by decide +kernel)) ggX3_byValue_X3_of
set_option maxRecDepth 20000 in
theorem ggX3_byValue_X3_size : GoodIn wsX3_byValue wsX3_size := goodIn_r _ [20] (by decide +kernel) (by decide +kernel)
set_option maxRecDepth 20000 in
theorem gX3_byValue_X3_size : GoodIn wsX3_byValue (va_wsS RX3 59 yX3_size wsX3_size) := goodIn_app (goodIn_of _ (by decide +kernel)) ggX3_byValue_X3_size
theorem dX3_byValue_0 : decode cX3_byValue 0 = .ok (.iload_n 1, 1) := by decide +kernel
theorem dX3_byValue_1 : decode cX3_byValue 1 = .ok (.invokestatic 75, 3) := by decide +kernel
theorem dX3_byValue_4 : decode cX3_byValue 4 = .ok (.ifCond .eq 15, 3) := by decide +kernel
theorem dX3_byValue_7 : decode cX3_byValue 7 = .ok (.iload_n 2, 1) := by decide +kernel
theorem dX3_byValue_8 : decode cX3_byValue 8 = .ok (.i2l, 1) := by decide +kernel
theorem dX3_byValue_9 : decode cX3_byValue 9 = .ok (.lconst 0, 1) := by decide +kernel
theorem dX3_byValue_10 : decode cX3_byValue 10 = .ok (.ldc2_w 79, 3) := by decide +kernel
theorem dX3_byValue_13 : decode cX3_byValue 13 = .ok (.invokestatic 39, 3) := by decide +kernel
theorem dX3_byValue_16 : decode cX3_byValue 16 = .ok (.ifCond .ne 7, 3) := by decide +kernel
theorem dX3_byValue_19 : decode cX3_byValue 19 = .ok (.ldc2_w 83, 3) := by decide +kernel
theorem dX3_byValue_22 : decode cX3_byValue 22 = .ok (.lreturn, 1) := by decide +kernel
theorem dX3_byValue_23 : decode cX3_byValue 23 = .ok (.iconst 0, 1) := by decide +kernel
theorem dX3_byValue_24 : decode cX3_byValue 24 = .ok (.istore_n 3, 1) := by decide +kernel
theorem dX3_byValue_25 : decode cX3_byValue 25 = .ok (.iload_n 3, 1) := by decide +kernel
theorem dX3_byValue_26 : decode cX3_byValue 26 = .ok (.aload_n 0, 1) := by decide +kernel
theorem dX3_byValue_27 : decode cX3_byValue 27 = .ok (.getfield 13, 3) := by decide +kernel
theorem dX3_byValue_30 : decode cX3_byValue 30 = .ok (.iload_n 1, 1) := by decide +kernel
theorem dX3_byValue_31 : decode cX3_byValue 31 = .ok (.iaload, 1) := by decide +kernel
theorem dX3_byValue_32 : decode cX3_byValue 32 = .ok (.if_icmp .gt 93, 3) := by decide +kernel
theorem dX3_byValue_35 : decode cX3_byValue 35 = .ok (.iconst 0, 1) := by decide +kernel
theorem dX3_byValue_36 : decode cX3_byValue 36 = .ok (.istore 4, 2) := by decide +kernel
theorem dX3_byValue_38 : decode cX3_byValue 38 = .ok (.iconst 0, 1) := by decide +kernel
theorem dX3_byValue_39 : decode cX3_byValue 39 = .ok (.istore 5, 2) := by decide +kernel
theorem dX3_byValue_41 : decode cX3_byValue 41 = .ok (.iload 5, 2) := by decide +kernel
theorem dX3_byValue_43 : decode cX3_byValue 43 = .ok (.aload_n 0, 1) := by decide +kernel
theorem dX3_byValue_44 : decode cX3_byValue 44 = .ok (.getfield 13, 3) := by decide +kernel
theorem dX3_byValue_47 : decode cX3_byValue 47 = .ok (.iload_n 1, 1) := by decide +kernel
theorem dX3_byValue_48 : decode cX3_byValue 48 = .ok (.iaload, 1) := by decide +kernel
theorem dX3_byValue_49 : decode cX3_byValue 49 = .ok (.if_icmp .gt 61, 3) := by decide +kernel
theorem dX3_byValue_52 : decode cX3_byValue 52 = .ok (.aload_n 0, 1) := by decide +kernel
theorem dX3_byValue_53 : decode cX3_byValue 53 = .ok (.iload_n 1, 1) := by decide +kernel
theorem dX3_byValue_54 : decode cX3_byValue 54 = .ok (.iload 5, 2) := by decide +kernel
theorem dX3_byValue_56 : decode cX3_byValue 56 = .ok (.invokevirtual 53, 3) := by decide +kernel
theorem dX3_byValue_59 : decode cX3_byValue 59 = .ok (.invokestatic 59, 3) := by decide +kernel
theorem dX3_byValue_62 : decode cX3_byValue 62 = .ok (.aload_n 0, 1) := by decide +kernel
theorem dX3_byValue_63 : decode cX3_byValue 63 = .ok (.iload_n 1, 1) := by decide +kernel
theorem dX3_byValue_64 : decode cX3_byValue 64 = .ok (.iload_n 3, 1) := by decide +kernel
theorem dX3_byValue_65 : decode cX3_byValue 65 = .ok (.invokevirtual 53, 3) := by decide +kernel
theorem dX3_byValue_68 : decode cX3_byValue 68 = .ok (.invokestatic 59, 3) := by decide +kernel
theorem dX3_byValue_71 : decode cX3_byValue 71 = .ok (.lsub, 1) := by decide +kernel
theorem dX3_byValue_72 : decode cX3_byValue 72 = .ok (.lstore 6, 2) := by decide +kernel
theorem dX3_byValue_74 : decode cX3_byValue 74 = .ok (.iload 4, 2) := by decide +kernel
theorem dX3_byValue_76 : decode cX3_byValue 76 = .ok (.lload 6, 2) := by decide +kernel
theorem dX3_byValue_78 : decode cX3_byValue 78 = .ok (.lconst 0, 1) := by decide +kernel
theorem dX3_byValue_79 : decode cX3_byValue 79 = .ok (.lcmp, 1) := by decide +kernel
theorem dX3_byValue_80 : decode cX3_byValue 80 = .ok (.ifCond .gt 16, 3) := by decide +kernel
theorem dX3_byValue_83 : decode cX3_byValue 83 = .ok (.lload 6, 2) := by decide +kernel
theorem dX3_byValue_85 : decode cX3_byValue 85 = .ok (.lconst 0, 1) := by decide +kernel
theorem dX3_byValue_86 : decode cX3_byValue 86 = .ok (.lcmp, 1) := by decide +kernel
theorem dX3_byValue_87 : decode cX3_byValue 87 = .ok (.ifCond .ne 13, 3) := by decide +kernel
theorem dX3_byValue_90 : decode cX3_byValue 90 = .ok (.iload 5, 2) := by decide +kernel
theorem dX3_byValue_92 : decode cX3_byValue 92 = .ok (.iload_n 3, 1) := by decide +kernel
theorem dX3_byValue_93 : decode cX3_byValue 93 = .ok (.if_icmp .ge 7, 3) := by decide +kernel
theorem dX3_byValue_96 : decode cX3_byValue 96 = .ok (.iconst 1, 1) := by decide +kernel
theorem dX3_byValue_97 : decode cX3_byValue 97 = .ok (.goto 4, 3) := by decide +kernel
theorem dX3_byValue_100 : decode cX3_byValue 100 = .ok (.iconst 0, 1) := by decide +kernel
theorem dX3_byValue_101 : decode cX3_byValue 101 = .ok (.iadd, 1) := by decide +kernel
theorem dX3_byValue_102 : decode cX3_byValue 102 = .ok (.istore 4, 2) := by decide +kernel
theorem dX3_byValue_104 : decode cX3_byValue 104 = .ok (.iinc 5 1, 3) := by decide +kernel
theorem dX3_byValue_107 : decode cX3_byValue 107 = .ok (.goto (-66), 3) := by decide +kernel
theorem dX3_byValue_110 : decode cX3_byValue 110 = .ok (.iload 4, 2) := by decide +kernel
theorem dX3_byValue_112 : decode cX3_byValue 112 = .ok (.iload_n 2, 1) := by decide +kernel
theorem dX3_byValue_113 : decode cX3_byValue 113 = .ok (.if_icmp .ne 6, 3) := by decide +kernel
theorem dX3_byValue_116 : decode cX3_byValue 116 = .ok (.iload_n 3, 1) := by decide +kernel
theorem dX3_byValue_117 : decode cX3_byValue 117 = .ok (.i2l, 1) := by decide +kernel
theorem dX3_byValue_118 : decode cX3_byValue 118 = .ok (.lreturn, 1) := by decide +kernel
theorem dX3_byValue_119 : decode cX3_byValue 119 = .ok (.iinc 3 1, 3) := by decide +kernel
theorem dX3_byValue_122 : decode cX3_byValue 122 = .ok (.goto (-97), 3) := by decide +kernel
theorem dX3_byValue_125 : decode cX3_byValue 125 = .ok (.ldc2_w 130, 3) := by decide +kernel
theorem dX3_byValue_128 : decode cX3_byValue 128 = .ok (.lreturn, 1) := by decide +kernel
theorem dX3_cosine_0 : decode cX3_cosine 0 = .ok (.iload_n 1, 1) := by decide +kernel
theorem dX3_cosine_1 : decode cX3_cosine 1 = .ok (.bipush 32, 2) := by decide +kernel
theorem dX3_cosine_3 : decode cX3_cosine 3 = .ok (.irem, 1) := by decide +kernel
theorem dX3_cosine_4 : decode cX3_cosine 4 = .ok (.istore_n 2, 1) := by decide +kernel
theorem dX3_cosine_5 : decode cX3_cosine 5 = .ok (.iload_n 2, 1) := by decide +kernel
theorem dX3_cosine_6 : decode cX3_cosine 6 = .ok (.bipush 16, 2) := by decide +kernel
theorem dX3_cosine_8 : decode cX3_cosine 8 = .ok (.if_icmp .le 10, 3) := by decide +kernel
theorem dX3_cosine_11 : decode cX3_cosine 11 = .ok (.bipush 32, 2) := by decide +kernel
theorem dX3_cosine_13 : decode cX3_cosine 13 = .ok (.iload_n 2, 1) := by decide +kernel
theorem dX3_cosine_14 : decode cX3_cosine 14 = .ok (.isub, 1) := by decide +kernel
theorem dX3_cosine_15 : decode cX3_cosine 15 = .ok (.goto 4, 3) := by decide +kernel
theorem dX3_cosine_18 : decode cX3_cosine 18 = .ok (.iload_n 2, 1) := by decide +kernel
theorem dX3_cosine_19 : decode cX3_cosine 19 = .ok (.istore_n 2, 1) := by decide +kernel
theorem dX3_cosine_20 : decode cX3_cosine 20 = .ok (.iload_n 2, 1) := by decide +kernel
theorem dX3_cosine_21 : decode cX3_cosine 21 = .ok (.bipush 8, 2) := by decide +kernel
theorem dX3_cosine_23 : decode cX3_cosine 23 = .ok (.if_icmp .gt 13, 3) := by decide +kernel
theorem dX3_cosine_26 : decode cX3_cosine 26 = .ok (.aload_n 0, 1) := by decide +kernel
theorem dX3_cosine_27 : decode cX3_cosine 27 = .ok (.getfield 28, 3) := by decide +kernel
theorem dX3_cosine_30 : decode cX3_cosine 30 = .ok (.iload_n 2, 1) := by decide +kernel
theorem dX3_cosine_31 : decode cX3_cosine 31 = .ok (.iaload, 1) := by decide +kernel
theorem dX3_cosine_32 : decode cX3_cosine 32 = .ok (.i2l, 1) := by decide +kernel
theorem dX3_cosine_33 : decode cX3_cosine 33 = .ok (.goto 14, 3) := by decide +kernel
theorem dX3_cosine_36 : decode cX3_cosine 36 = .ok (.aload_n 0, 1) := by decide +kernel
theorem dX3_cosine_37 : decode cX3_cosine 37 = .ok (.getfield 28, 3) := by decide +kernel
theorem dX3_cosine_40 : decode cX3_cosine 40 = .ok (.bipush 16, 2) := by decide +kernel
theorem dX3_cosine_42 : decode cX3_cosine 42 = .ok (.iload_n 2, 1) := by decide +kernel
theorem dX3_cosine_43 : decode cX3_cosine 43 = .ok (.isub, 1) := by decide +kernel
theorem dX3_cosine_44 : decode cX3_cosine 44 = .ok (.iaload, 1) := by decide +kernel
theorem dX3_cosine_45 : decode cX3_cosine 45 = .ok (.ineg, 1) := by decide +kernel
theorem dX3_cosine_46 : decode cX3_cosine 46 = .ok (.i2l, 1) := by decide +kernel
theorem dX3_cosine_47 : decode cX3_cosine 47 = .ok (.lreturn, 1) := by decide +kernel
set_option maxRecDepth 20000 in
theorem ggX3_isPower_X3_in : GoodIn wsX3_isPower wsX3_in := goodIn_r _ [5] (by decide +kernel) (by decide +kernel)
set_option maxRecDepth 20000 in
theorem gX3_isPower_X3_in : GoodIn wsX3_isPower (va_wsS RX3 39 yX3_in wsX3_in) := goodIn_app (goodIn_of _ (by decide +kernel)) ggX3_isPower_X3_in
theorem dX3_isPower_0 : decode cX3_isPower 0 = .ok (.iload_n 0, 1) := by decide +kernel
theorem dX3_isPower_1 : decode cX3_isPower 1 = .ok (.i2l, 1) := by decide +kernel
theorem dX3_isPower_2 : decode cX3_isPower 2 = .ok (.lconst 0, 1) := by decide +kernel
theorem dX3_isPower_3 : decode cX3_isPower 3 = .ok (.ldc2_w 132, 3) := by decide +kernel
theorem dX3_isPower_6 : decode cX3_isPower 6 = .ok (.invokestatic 39, 3) := by decide +kernel
theorem dX3_isPower_9 : decode cX3_isPower 9 = .ok (.ireturn, 1) := by decide +kernel
set_option maxRecDepth 20000 in
theorem ggX3_setValue_X3_in : GoodIn wsX3_setValue wsX3_in := goodIn_r _ [9] (by decide +kernel) (by decide +kernel)
set_option maxRecDepth 20000 in
theorem gX3_setValue_X3_in : GoodIn wsX3_setValue (va_wsS RX3 39 yX3_in wsX3_in) := goodIn_app (goodIn_of _ (by decide +kernel)) ggX3_setValue_X3_in
theorem dX3_setValue_0 : decode cX3_setValue 0 = .ok (.iload_n 1, 1) := by decide +kernel
theorem dX3_setValue_1 : decode cX3_setValue 1 = .ok (.i2l, 1) := by decide +kernel
theorem dX3_setValue_2 : decode cX3_setValue 2 = .ok (.lconst 0, 1) := by decide +kernel
theorem dX3_setValue_3 : decode cX3_setValue 3 = .ok (.ldc2_w 134, 3) := by decide +kernel
theorem dX3_setValue_6 : decode cX3_setValue 6 = .ok (.invokestatic 39, 3) := by decide +kernel
theorem dX3_setValue_9 : decode cX3_setValue 9 = .ok (.ifCond .eq 17, 3) := by decide +kernel
theorem dX3_setValue_12 : decode cX3_setValue 12 = .ok (.iload_n 2, 1) := by decide +kernel
theorem dX3_setValue_13 : decode cX3_setValue 13 = .ok (.i2l, 1) := by decide +kernel
theorem dX3_setValue_14 : decode cX3_setValue 14 = .ok (.ldc2_w 136, 3) := by decide +kernel
theorem dX3_setValue_17 : decode cX3_setValue 17 = .ok (.ldc2_w 138, 3) := by decide +kernel
theorem dX3_setValue_20 : decode cX3_setValue 20 = .ok (.invokestatic 39, 3) := by decide +kernel
theorem dX3_setValue_23 : decode cX3_setValue 23 = .ok (.ifCond .ne 7, 3) := by decide +kernel
theorem dX3_setValue_26 : decode cX3_setValue 26 = .ok (.ldc2_w 83, 3) := by decide +kernel
theorem dX3_setValue_29 : decode cX3_setValue 29 = .ok (.lreturn, 1) := by decide +kernel
theorem dX3_setValue_30 : decode cX3_setValue 30 = .ok (.aload_n 0, 1) := by decide +kernel
theorem dX3_setValue_31 : decode cX3_setValue 31 = .ok (.getfield 17, 3) := by decide +kernel
theorem dX3_setValue_34 : decode cX3_setValue 34 = .ok (.iload_n 1, 1) := by decide +kernel
theorem dX3_setValue_35 : decode cX3_setValue 35 = .ok (.iaload, 1) := by decide +kernel
theorem dX3_setValue_36 : decode cX3_setValue 36 = .ok (.istore_n 3, 1) := by decide +kernel
theorem dX3_setValue_37 : decode cX3_setValue 37 = .ok (.aload_n 0, 1) := by decide +kernel
theorem dX3_setValue_38 : decode cX3_setValue 38 = .ok (.getfield 17, 3) := by decide +kernel
theorem dX3_setValue_41 : decode cX3_setValue 41 = .ok (.iload_n 1, 1) := by decide +kernel
theorem dX3_setValue_42 : decode cX3_setValue 42 = .ok (.iload_n 2, 1) := by decide +kernel
theorem dX3_setValue_43 : decode cX3_setValue 43 = .ok (.iastore, 1) := by decide +kernel
theorem dX3_setValue_44 : decode cX3_setValue 44 = .ok (.iload_n 3, 1) := by decide +kernel
theorem dX3_setValue_45 : decode cX3_setValue 45 = .ok (.i2l, 1) := by decide +kernel
theorem dX3_setValue_46 : decode cX3_setValue 46 = .ok (.lreturn, 1) := by decide +kernel
set_option maxRecDepth 20000 in
theorem ggX3_interpolate_X3_isPower : GoodIn wsX3_interpolate wsX3_isPower := goodIn_r _ [8, 9, 10, 11, 7, 12] (by decide +kernel) (by decide +kernel)
set_option maxRecDepth 20000 in
theorem gX3_interpolate_X3_isPower : GoodIn wsX3_interpolate (va_wsS RX3 140 yX3_isPower wsX3_isPower) := goodIn_app (goodIn_of _ (by decide +kernel)) ggX3_interpolate_X3_isPower
set_option maxRecDepth 20000 in
theorem ggX3_interpolate_X3_isSeries : GoodIn wsX3_interpolate wsX3_isSeries := goodIn_r _ [15, 16, 10, 11, 7, 12] (by decide +kernel) (by decide +kernel)
set_option maxRecDepth 20000 in
theorem gX3_interpolate_X3_isSeries : GoodIn wsX3_interpolate (va_wsS RX3 75 yX3_isSeries wsX3_isSeries) := goodIn_app (goodIn_of _ (by decide +kernel)) ggX3_interpolate_X3_isSeries
set_option maxRecDepth 20000 in
theorem ggX3_interpolate_X3_clears : GoodIn wsX3_interpolate wsX3_clears := goodIn_r _ [20, 21, 22, 23, 24, 7, 25, 26, 57, 58, 59, 60, 61, 62, 63, 64] (by decide +kernel) (by decide +kernel)
set_option maxRecDepth 20000 in
theorem gX3_interpolate_X3_clears : GoodIn wsX3_interpolate (wsV RX3 103 RX3 yX3_clears wsX3_clears) := goodIn_app (goodIn_of _ (by decide +kernel)) ggX3_interpolate_X3_clears
set_option maxRecDepth 20000 in
theorem ggX3_interpolate_X3_cosine : GoodIn wsX3_interpolate wsX3_cosine := goodIn_r _ [30, 31, 57, 58, 59, 60, 61, 62, 63, 64] (by decide +kernel) (by decide +kernel)
set_option maxRecDepth 20000 in
theorem gX3_interpolate_X3_cosine : GoodIn wsX3_interpolate (wsV RX3 143 RX3 yX3_cosine wsX3_cosine) := goodIn_app (goodIn_of _ (by decide +kernel)) ggX3_interpolate_X3_cosine
set_option maxRecDepth 20000 in
theorem ggX3_interpolate_X3_rounded : GoodIn wsX3_interpolate wsX3_rounded := goodIn_r _ [34, 2] (by decide +kernel) (by decide +kernel)
set_option maxRecDepth 20000 in
theorem gX3_interpolate_X3_rounded : GoodIn wsX3_interpolate (va_wsS RX3 88 yX3_rounded wsX3_rounded) := goodIn_app (goodIn_of _ (by decide +kernel)) ggX3_interpolate_X3_rounded
set_option maxRecDepth 20000 in
theorem ggX3_interpolate_X3_sets : GoodIn wsX3_interpolate wsX3_sets := goodIn_r _ [25, 26, 57, 58, 59, 60, 61, 62, 63, 64] (by decide +kernel) (by decide +kernel)
set_option maxRecDepth 20000 in
theorem gX3_interpolate_X3_sets : GoodIn wsX3_interpolate (wsV RX3 49 RX3 yX3_sets wsX3_sets) := goodIn_app (goodIn_of _ (by decide +kernel)) ggX3_interpolate_X3_sets
set_option maxRecDepth 20000 in
theorem ggX3_interpolate_X3_gives : GoodIn wsX3_interpolate wsX3_gives := goodIn_r _ [38, 21, 39, 40, 41, 7, 42, 43, 44, 45, 46, 47, 48, 49, 26, 50, 51, 52, 53, 54, 55, 56, 22, 23, 24, 25, 57, 58, 59, 60, 61, 62, 63, 64] (by decide +kernel) (by decide +kernel)
set_option maxRecDepth 20000 in
theorem gX3_interpolate_X3_gives : GoodIn wsX3_interpolate (wsV RX3 85 RX3 yX3_gives wsX3_gives) := goodIn_app (goodIn_of _ (by decide +kernel)) ggX3_interpolate_X3_gives
theorem dX3_interpolate_0 : decode cX3_interpolate 0 = .ok (.iload_n 1, 1) := by decide +kernel
theorem dX3_interpolate_1 : decode cX3_interpolate 1 = .ok (.invokestatic 140, 3) := by decide +kernel
theorem dX3_interpolate_4 : decode cX3_interpolate 4 = .ok (.ifCond .eq 10, 3) := by decide +kernel
theorem dX3_interpolate_7 : decode cX3_interpolate 7 = .ok (.iload_n 2, 1) := by decide +kernel
theorem dX3_interpolate_8 : decode cX3_interpolate 8 = .ok (.invokestatic 75, 3) := by decide +kernel
theorem dX3_interpolate_11 : decode cX3_interpolate 11 = .ok (.ifCond .ne 7, 3) := by decide +kernel
theorem dX3_interpolate_14 : decode cX3_interpolate 14 = .ok (.ldc2_w 83, 3) := by decide +kernel
theorem dX3_interpolate_17 : decode cX3_interpolate 17 = .ok (.lreturn, 1) := by decide +kernel
theorem dX3_interpolate_18 : decode cX3_interpolate 18 = .ok (.iconst 1, 1) := by decide +kernel
theorem dX3_interpolate_19 : decode cX3_interpolate 19 = .ok (.iload_n 1, 1) := by decide +kernel
theorem dX3_interpolate_20 : decode cX3_interpolate 20 = .ok (.ishl, 1) := by decide +kernel
theorem dX3_interpolate_21 : decode cX3_interpolate 21 = .ok (.istore_n 3, 1) := by decide +kernel
theorem dX3_interpolate_22 : decode cX3_interpolate 22 = .ok (.aload_n 0, 1) := by decide +kernel
theorem dX3_interpolate_23 : decode cX3_interpolate 23 = .ok (.bipush 8, 2) := by decide +kernel
theorem dX3_interpolate_25 : decode cX3_interpolate 25 = .ok (.iload_n 3, 1) := by decide +kernel
theorem dX3_interpolate_26 : decode cX3_interpolate 26 = .ok (.invokevirtual 103, 3) := by decide +kernel
theorem dX3_interpolate_29 : decode cX3_interpolate 29 = .ok (.iconst 0, 1) := by decide +kernel
theorem dX3_interpolate_30 : decode cX3_interpolate 30 = .ok (.istore 4, 2) := by decide +kernel
theorem dX3_interpolate_32 : decode cX3_interpolate 32 = .ok (.iload 4, 2) := by decide +kernel
theorem dX3_interpolate_34 : decode cX3_interpolate 34 = .ok (.iload_n 3, 1) := by decide +kernel
theorem dX3_interpolate_35 : decode cX3_interpolate 35 = .ok (.if_icmp .gt 116, 3) := by decide +kernel
theorem dX3_interpolate_38 : decode cX3_interpolate 38 = .ok (.lconst 0, 1) := by decide +kernel
theorem dX3_interpolate_39 : decode cX3_interpolate 39 = .ok (.lstore 5, 2) := by decide +kernel
theorem dX3_interpolate_41 : decode cX3_interpolate 41 = .ok (.iconst 0, 1) := by decide +kernel
theorem dX3_interpolate_42 : decode cX3_interpolate 42 = .ok (.istore 7, 2) := by decide +kernel
theorem dX3_interpolate_44 : decode cX3_interpolate 44 = .ok (.iload 7, 2) := by decide +kernel
theorem dX3_interpolate_46 : decode cX3_interpolate 46 = .ok (.iload_n 3, 1) := by decide +kernel
theorem dX3_interpolate_47 : decode cX3_interpolate 47 = .ok (.if_icmp .gt 56, 3) := by decide +kernel
theorem dX3_interpolate_50 : decode cX3_interpolate 50 = .ok (.lload 5, 2) := by decide +kernel
theorem dX3_interpolate_52 : decode cX3_interpolate 52 = .ok (.iload 7, 2) := by decide +kernel
theorem dX3_interpolate_54 : decode cX3_interpolate 54 = .ok (.ifCond .eq 9, 3) := by decide +kernel
theorem dX3_interpolate_57 : decode cX3_interpolate 57 = .ok (.iload 7, 2) := by decide +kernel
theorem dX3_interpolate_59 : decode cX3_interpolate 59 = .ok (.iload_n 3, 1) := by decide +kernel
theorem dX3_interpolate_60 : decode cX3_interpolate 60 = .ok (.if_icmp .ne 7, 3) := by decide +kernel
theorem dX3_interpolate_63 : decode cX3_interpolate 63 = .ok (.lconst 1, 1) := by decide +kernel
theorem dX3_interpolate_64 : decode cX3_interpolate 64 = .ok (.goto 6, 3) := by decide +kernel
theorem dX3_interpolate_67 : decode cX3_interpolate 67 = .ok (.ldc2_w 47, 3) := by decide +kernel
theorem dX3_interpolate_70 : decode cX3_interpolate 70 = .ok (.aload_n 0, 1) := by decide +kernel
theorem dX3_interpolate_71 : decode cX3_interpolate 71 = .ok (.getfield 17, 3) := by decide +kernel
theorem dX3_interpolate_74 : decode cX3_interpolate 74 = .ok (.iload 7, 2) := by decide +kernel
theorem dX3_interpolate_76 : decode cX3_interpolate 76 = .ok (.iaload, 1) := by decide +kernel
theorem dX3_interpolate_77 : decode cX3_interpolate 77 = .ok (.i2l, 1) := by decide +kernel
theorem dX3_interpolate_78 : decode cX3_interpolate 78 = .ok (.lmul, 1) := by decide +kernel
theorem dX3_interpolate_79 : decode cX3_interpolate 79 = .ok (.aload_n 0, 1) := by decide +kernel
theorem dX3_interpolate_80 : decode cX3_interpolate 80 = .ok (.iload 7, 2) := by decide +kernel
theorem dX3_interpolate_82 : decode cX3_interpolate 82 = .ok (.iload 4, 2) := by decide +kernel
theorem dX3_interpolate_84 : decode cX3_interpolate 84 = .ok (.imul, 1) := by decide +kernel
theorem dX3_interpolate_85 : decode cX3_interpolate 85 = .ok (.bipush 16, 2) := by decide +kernel
theorem dX3_interpolate_87 : decode cX3_interpolate 87 = .ok (.iload_n 3, 1) := by decide +kernel
theorem dX3_interpolate_88 : decode cX3_interpolate 88 = .ok (.idiv, 1) := by decide +kernel
theorem dX3_interpolate_89 : decode cX3_interpolate 89 = .ok (.imul, 1) := by decide +kernel
theorem dX3_interpolate_90 : decode cX3_interpolate 90 = .ok (.invokevirtual 143, 3) := by decide +kernel
theorem dX3_interpolate_93 : decode cX3_interpolate 93 = .ok (.lmul, 1) := by decide +kernel
theorem dX3_interpolate_94 : decode cX3_interpolate 94 = .ok (.ladd, 1) := by decide +kernel
theorem dX3_interpolate_95 : decode cX3_interpolate 95 = .ok (.lstore 5, 2) := by decide +kernel
theorem dX3_interpolate_97 : decode cX3_interpolate 97 = .ok (.iinc 7 1, 3) := by decide +kernel
theorem dX3_interpolate_100 : decode cX3_interpolate 100 = .ok (.goto (-56), 3) := by decide +kernel
theorem dX3_interpolate_103 : decode cX3_interpolate 103 = .ok (.aload_n 0, 1) := by decide +kernel
theorem dX3_interpolate_104 : decode cX3_interpolate 104 = .ok (.bipush 8, 2) := by decide +kernel
theorem dX3_interpolate_106 : decode cX3_interpolate 106 = .ok (.iload 4, 2) := by decide +kernel
theorem dX3_interpolate_108 : decode cX3_interpolate 108 = .ok (.iload 4, 2) := by decide +kernel
theorem dX3_interpolate_110 : decode cX3_interpolate 110 = .ok (.ifCond .eq 9, 3) := by decide +kernel
theorem dX3_interpolate_113 : decode cX3_interpolate 113 = .ok (.iload 4, 2) := by decide +kernel
theorem dX3_interpolate_115 : decode cX3_interpolate 115 = .ok (.iload_n 3, 1) := by decide +kernel
theorem dX3_interpolate_116 : decode cX3_interpolate 116 = .ok (.if_icmp .ne 7, 3) := by decide +kernel
theorem dX3_interpolate_119 : decode cX3_interpolate 119 = .ok (.lconst 1, 1) := by decide +kernel
theorem dX3_interpolate_120 : decode cX3_interpolate 120 = .ok (.goto 6, 3) := by decide +kernel
theorem dX3_interpolate_123 : decode cX3_interpolate 123 = .ok (.ldc2_w 47, 3) := by decide +kernel
theorem dX3_interpolate_126 : decode cX3_interpolate 126 = .ok (.lload 5, 2) := by decide +kernel
theorem dX3_interpolate_128 : decode cX3_interpolate 128 = .ok (.lmul, 1) := by decide +kernel
theorem dX3_interpolate_129 : decode cX3_interpolate 129 = .ok (.ldc2_w 47, 3) := by decide +kernel
theorem dX3_interpolate_132 : decode cX3_interpolate 132 = .ok (.iload_n 3, 1) := by decide +kernel
theorem dX3_interpolate_133 : decode cX3_interpolate 133 = .ok (.i2l, 1) := by decide +kernel
theorem dX3_interpolate_134 : decode cX3_interpolate 134 = .ok (.lmul, 1) := by decide +kernel
theorem dX3_interpolate_135 : decode cX3_interpolate 135 = .ok (.ldc2_w 45, 3) := by decide +kernel
theorem dX3_interpolate_138 : decode cX3_interpolate 138 = .ok (.lmul, 1) := by decide +kernel
theorem dX3_interpolate_139 : decode cX3_interpolate 139 = .ok (.invokestatic 88, 3) := by decide +kernel
theorem dX3_interpolate_142 : decode cX3_interpolate 142 = .ok (.invokevirtual 49, 3) := by decide +kernel
theorem dX3_interpolate_145 : decode cX3_interpolate 145 = .ok (.iinc 4 1, 3) := by decide +kernel
theorem dX3_interpolate_148 : decode cX3_interpolate 148 = .ok (.goto (-116), 3) := by decide +kernel
theorem dX3_interpolate_151 : decode cX3_interpolate 151 = .ok (.aload_n 0, 1) := by decide +kernel
theorem dX3_interpolate_152 : decode cX3_interpolate 152 = .ok (.iload_n 2, 1) := by decide +kernel
theorem dX3_interpolate_153 : decode cX3_interpolate 153 = .ok (.invokevirtual 85, 3) := by decide +kernel
theorem dX3_interpolate_156 : decode cX3_interpolate 156 = .ok (.lreturn, 1) := by decide +kernel
set_option maxRecDepth 20000 in
theorem ggX3_pointAt_X3_cosine : GoodIn wsX3_pointAt wsX3_cosine := goodIn_r _ [5, 6, 7, 8, 9, 10, 11, 12, 13, 14] (by decide +kernel) (by decide +kernel)
set_option maxRecDepth 20000 in
theorem gX3_pointAt_X3_cosine : GoodIn wsX3_pointAt (wsV RX3 143 RX3 yX3_cosine wsX3_cosine) := goodIn_app (goodIn_of _ (by decide +kernel)) ggX3_pointAt_X3_cosine
theorem dX3_pointAt_0 : decode cX3_pointAt 0 = .ok (.aload_n 0, 1) := by decide +kernel
theorem dX3_pointAt_1 : decode cX3_pointAt 1 = .ok (.iload_n 2, 1) := by decide +kernel
theorem dX3_pointAt_2 : decode cX3_pointAt 2 = .ok (.bipush 16, 2) := by decide +kernel
theorem dX3_pointAt_4 : decode cX3_pointAt 4 = .ok (.iload_n 1, 1) := by decide +kernel
theorem dX3_pointAt_5 : decode cX3_pointAt 5 = .ok (.ishr, 1) := by decide +kernel
theorem dX3_pointAt_6 : decode cX3_pointAt 6 = .ok (.imul, 1) := by decide +kernel
theorem dX3_pointAt_7 : decode cX3_pointAt 7 = .ok (.invokevirtual 143, 3) := by decide +kernel
theorem dX3_pointAt_10 : decode cX3_pointAt 10 = .ok (.lreturn, 1) := by decide +kernel
set_option maxRecDepth 20000 in
theorem ggX3_sample_X3_isSeries : GoodIn wsX3_sample wsX3_isSeries := goodIn_r _ [8, 9, 10, 11, 7, 12] (by decide +kernel) (by decide +kernel)
set_option maxRecDepth 20000 in
theorem gX3_sample_X3_isSeries : GoodIn wsX3_sample (va_wsS RX3 75 yX3_isSeries wsX3_isSeries) := goodIn_app (goodIn_of _ (by decide +kernel)) ggX3_sample_X3_isSeries
set_option maxRecDepth 20000 in
theorem ggX3_sample_X3_isPower : GoodIn wsX3_sample wsX3_isPower := goodIn_r _ [15, 16, 10, 11, 7, 12] (by decide +kernel) (by decide +kernel)
set_option maxRecDepth 20000 in
theorem gX3_sample_X3_isPower : GoodIn wsX3_sample (va_wsS RX3 140 yX3_isPower wsX3_isPower) := goodIn_app (goodIn_of _ (by decide +kernel)) ggX3_sample_X3_isPower
set_option maxRecDepth 20000 in
theorem ggX3_sample_X3_pointAt : GoodIn wsX3_sample wsX3_pointAt := goodIn_r _ [20, 21, 22, 23, 7, 24, 25, 44, 45, 46, 47, 48, 49, 50, 51] (by decide +kernel) (by decide +kernel)
set_option maxRecDepth 20000 in
theorem gX3_sample_X3_pointAt : GoodIn wsX3_sample (wsV RX3 146 RX3 yX3_pointAt wsX3_pointAt) := goodIn_app (goodIn_of _ (by decide +kernel)) ggX3_sample_X3_pointAt
set_option maxRecDepth 20000 in
theorem ggX3_sample_X3_valueAt : GoodIn wsX3_sample wsX3_valueAt := goodIn_r _ [29, 30, 31, 32, 33, 34, 35, 7, 36, 37, 38, 39, 40, 44, 45, 46, 47, 48, 49, 50, 51] (by decide +kernel) (by decide +kernel)
set_option maxRecDepth 20000 in
theorem gX3_sample_X3_valueAt : GoodIn wsX3_sample (wsV RX3 95 RX3 yX3_valueAt wsX3_valueAt) := goodIn_app (goodIn_of _ (by decide +kernel)) ggX3_sample_X3_valueAt
set_option maxRecDepth 20000 in
theorem ggX3_sample_X3_size : GoodIn wsX3_sample wsX3_size := goodIn_r _ [43] (by decide +kernel) (by decide +kernel)
set_option maxRecDepth 20000 in
theorem gX3_sample_X3_size : GoodIn wsX3_sample (va_wsS RX3 59 yX3_size wsX3_size) := goodIn_app (goodIn_of _ (by decide +kernel)) ggX3_sample_X3_size
theorem dX3_sample_0 : decode cX3_sample 0 = .ok (.iload_n 1, 1) := by decide +kernel
theorem dX3_sample_1 : decode cX3_sample 1 = .ok (.invokestatic 75, 3) := by decide +kernel
theorem dX3_sample_4 : decode cX3_sample 4 = .ok (.ifCond .eq 10, 3) := by decide +kernel
theorem dX3_sample_7 : decode cX3_sample 7 = .ok (.iload_n 2, 1) := by decide +kernel
theorem dX3_sample_8 : decode cX3_sample 8 = .ok (.invokestatic 140, 3) := by decide +kernel
theorem dX3_sample_11 : decode cX3_sample 11 = .ok (.ifCond .ne 7, 3) := by decide +kernel
theorem dX3_sample_14 : decode cX3_sample 14 = .ok (.ldc2_w 83, 3) := by decide +kernel
theorem dX3_sample_17 : decode cX3_sample 17 = .ok (.lreturn, 1) := by decide +kernel
theorem dX3_sample_18 : decode cX3_sample 18 = .ok (.iconst 1, 1) := by decide +kernel
theorem dX3_sample_19 : decode cX3_sample 19 = .ok (.iload_n 2, 1) := by decide +kernel
theorem dX3_sample_20 : decode cX3_sample 20 = .ok (.ishl, 1) := by decide +kernel
theorem dX3_sample_21 : decode cX3_sample 21 = .ok (.istore_n 3, 1) := by decide +kernel
theorem dX3_sample_22 : decode cX3_sample 22 = .ok (.iconst 0, 1) := by decide +kernel
theorem dX3_sample_23 : decode cX3_sample 23 = .ok (.istore 4, 2) := by decide +kernel
theorem dX3_sample_25 : decode cX3_sample 25 = .ok (.iload 4, 2) := by decide +kernel
theorem dX3_sample_27 : decode cX3_sample 27 = .ok (.iload_n 3, 1) := by decide +kernel
theorem dX3_sample_28 : decode cX3_sample 28 = .ok (.if_icmp .gt 35, 3) := by decide +kernel
theorem dX3_sample_31 : decode cX3_sample 31 = .ok (.aload_n 0, 1) := by decide +kernel
theorem dX3_sample_32 : decode cX3_sample 32 = .ok (.iload_n 1, 1) := by decide +kernel
theorem dX3_sample_33 : decode cX3_sample 33 = .ok (.aload_n 0, 1) := by decide +kernel
theorem dX3_sample_34 : decode cX3_sample 34 = .ok (.iload_n 2, 1) := by decide +kernel
theorem dX3_sample_35 : decode cX3_sample 35 = .ok (.iload 4, 2) := by decide +kernel
theorem dX3_sample_37 : decode cX3_sample 37 = .ok (.invokevirtual 146, 3) := by decide +kernel
theorem dX3_sample_40 : decode cX3_sample 40 = .ok (.invokevirtual 95, 3) := by decide +kernel
theorem dX3_sample_43 : decode cX3_sample 43 = .ok (.invokestatic 59, 3) := by decide +kernel
theorem dX3_sample_46 : decode cX3_sample 46 = .ok (.ldc2_w 138, 3) := by decide +kernel
theorem dX3_sample_49 : decode cX3_sample 49 = .ok (.lcmp, 1) := by decide +kernel
theorem dX3_sample_50 : decode cX3_sample 50 = .ok (.ifCond .le 7, 3) := by decide +kernel
theorem dX3_sample_53 : decode cX3_sample 53 = .ok (.ldc2_w 65, 3) := by decide +kernel
theorem dX3_sample_56 : decode cX3_sample 56 = .ok (.lreturn, 1) := by decide +kernel
theorem dX3_sample_57 : decode cX3_sample 57 = .ok (.iinc 4 1, 3) := by decide +kernel
theorem dX3_sample_60 : decode cX3_sample 60 = .ok (.goto (-35), 3) := by decide +kernel
theorem dX3_sample_63 : decode cX3_sample 63 = .ok (.iconst 0, 1) := by decide +kernel
theorem dX3_sample_64 : decode cX3_sample 64 = .ok (.istore 4, 2) := by decide +kernel
theorem dX3_sample_66 : decode cX3_sample 66 = .ok (.iload 4, 2) := by decide +kernel
theorem dX3_sample_68 : decode cX3_sample 68 = .ok (.iload_n 3, 1) := by decide +kernel
theorem dX3_sample_69 : decode cX3_sample 69 = .ok (.if_icmp .gt 29, 3) := by decide +kernel
theorem dX3_sample_72 : decode cX3_sample 72 = .ok (.aload_n 0, 1) := by decide +kernel
theorem dX3_sample_73 : decode cX3_sample 73 = .ok (.getfield 17, 3) := by decide +kernel
theorem dX3_sample_76 : decode cX3_sample 76 = .ok (.iload 4, 2) := by decide +kernel
theorem dX3_sample_78 : decode cX3_sample 78 = .ok (.aload_n 0, 1) := by decide +kernel
theorem dX3_sample_79 : decode cX3_sample 79 = .ok (.iload_n 1, 1) := by decide +kernel
theorem dX3_sample_80 : decode cX3_sample 80 = .ok (.aload_n 0, 1) := by decide +kernel
theorem dX3_sample_81 : decode cX3_sample 81 = .ok (.iload_n 2, 1) := by decide +kernel
theorem dX3_sample_82 : decode cX3_sample 82 = .ok (.iload 4, 2) := by decide +kernel
theorem dX3_sample_84 : decode cX3_sample 84 = .ok (.invokevirtual 146, 3) := by decide +kernel
theorem dX3_sample_87 : decode cX3_sample 87 = .ok (.invokevirtual 95, 3) := by decide +kernel
theorem dX3_sample_90 : decode cX3_sample 90 = .ok (.l2i, 1) := by decide +kernel
theorem dX3_sample_91 : decode cX3_sample 91 = .ok (.iastore, 1) := by decide +kernel
theorem dX3_sample_92 : decode cX3_sample 92 = .ok (.iinc 4 1, 3) := by decide +kernel
theorem dX3_sample_95 : decode cX3_sample 95 = .ok (.goto (-29), 3) := by decide +kernel
theorem dX3_sample_98 : decode cX3_sample 98 = .ok (.iload_n 3, 1) := by decide +kernel
theorem dX3_sample_99 : decode cX3_sample 99 = .ok (.iconst 1, 1) := by decide +kernel
theorem dX3_sample_100 : decode cX3_sample 100 = .ok (.iadd, 1) := by decide +kernel
theorem dX3_sample_101 : decode cX3_sample 101 = .ok (.i2l, 1) := by decide +kernel
theorem dX3_sample_102 : decode cX3_sample 102 = .ok (.lreturn, 1) := by decide +kernel
set_option maxRecDepth 20000 in
theorem ggX3_misfit_X3_isSeries : GoodIn wsX3_misfit wsX3_isSeries := goodIn_r _ [6, 7, 8, 9, 5, 10] (by decide +kernel) (by decide +kernel)
set_option maxRecDepth 20000 in
theorem gX3_misfit_X3_isSeries : GoodIn wsX3_misfit (va_wsS RX3 75 yX3_isSeries wsX3_isSeries) := goodIn_app (goodIn_of _ (by decide +kernel)) ggX3_misfit_X3_isSeries
set_option maxRecDepth 20000 in
theorem ggX3_misfit_X3_isPower : GoodIn wsX3_misfit wsX3_isPower := goodIn_r _ [13, 14, 8, 9, 5, 10] (by decide +kernel) (by decide +kernel)
set_option maxRecDepth 20000 in
theorem gX3_misfit_X3_isPower : GoodIn wsX3_misfit (va_wsS RX3 140 yX3_isPower wsX3_isPower) := goodIn_app (goodIn_of _ (by decide +kernel)) ggX3_misfit_X3_isPower
set_option maxRecDepth 20000 in
theorem ggX3_misfit_X3_pointAt : GoodIn wsX3_misfit wsX3_pointAt := goodIn_r _ [18, 19, 20, 21, 5, 22, 23, 42, 43, 44, 45, 46, 47, 48, 49] (by decide +kernel) (by decide +kernel)
set_option maxRecDepth 20000 in
theorem gX3_misfit_X3_pointAt : GoodIn wsX3_misfit (wsV RX3 146 RX3 yX3_pointAt wsX3_pointAt) := goodIn_app (goodIn_of _ (by decide +kernel)) ggX3_misfit_X3_pointAt
set_option maxRecDepth 20000 in
theorem ggX3_misfit_X3_valueAt : GoodIn wsX3_misfit wsX3_valueAt := goodIn_r _ [27, 28, 29, 30, 31, 32, 33, 5, 34, 35, 36, 37, 38, 42, 43, 44, 45, 46, 47, 48, 49] (by decide +kernel) (by decide +kernel)
set_option maxRecDepth 20000 in
theorem gX3_misfit_X3_valueAt : GoodIn wsX3_misfit (wsV RX3 95 RX3 yX3_valueAt wsX3_valueAt) := goodIn_app (goodIn_of _ (by decide +kernel)) ggX3_misfit_X3_valueAt
set_option maxRecDepth 20000 in
theorem ggX3_misfit_X3_size : GoodIn wsX3_misfit wsX3_size := goodIn_r _ [41] (by decide +kernel) (by decide +kernel)
set_option maxRecDepth 20000 in
theorem gX3_misfit_X3_size : GoodIn wsX3_misfit (va_wsS RX3 59 yX3_size wsX3_size) := goodIn_app (goodIn_of _ (by decide +kernel)) ggX3_misfit_X3_size
theorem dX3_misfit_0 : decode cX3_misfit 0 = .ok (.iload_n 1, 1) := by decide +kernel
theorem dX3_misfit_1 : decode cX3_misfit 1 = .ok (.invokestatic 75, 3) := by decide +kernel
theorem dX3_misfit_4 : decode cX3_misfit 4 = .ok (.ifCond .eq 10, 3) := by decide +kernel
theorem dX3_misfit_7 : decode cX3_misfit 7 = .ok (.iload_n 2, 1) := by decide +kernel
theorem dX3_misfit_8 : decode cX3_misfit 8 = .ok (.invokestatic 140, 3) := by decide +kernel
theorem dX3_misfit_11 : decode cX3_misfit 11 = .ok (.ifCond .ne 7, 3) := by decide +kernel
theorem dX3_misfit_14 : decode cX3_misfit 14 = .ok (.ldc2_w 83, 3) := by decide +kernel
theorem dX3_misfit_17 : decode cX3_misfit 17 = .ok (.lreturn, 1) := by decide +kernel
theorem dX3_misfit_18 : decode cX3_misfit 18 = .ok (.lconst 0, 1) := by decide +kernel
theorem dX3_misfit_19 : decode cX3_misfit 19 = .ok (.lstore_n 3, 1) := by decide +kernel
theorem dX3_misfit_20 : decode cX3_misfit 20 = .ok (.iconst 0, 1) := by decide +kernel
theorem dX3_misfit_21 : decode cX3_misfit 21 = .ok (.istore 5, 2) := by decide +kernel
theorem dX3_misfit_23 : decode cX3_misfit 23 = .ok (.iload 5, 2) := by decide +kernel
theorem dX3_misfit_25 : decode cX3_misfit 25 = .ok (.iconst 1, 1) := by decide +kernel
theorem dX3_misfit_26 : decode cX3_misfit 26 = .ok (.iload_n 2, 1) := by decide +kernel
theorem dX3_misfit_27 : decode cX3_misfit 27 = .ok (.ishl, 1) := by decide +kernel
theorem dX3_misfit_28 : decode cX3_misfit 28 = .ok (.if_icmp .gt 49, 3) := by decide +kernel
theorem dX3_misfit_31 : decode cX3_misfit 31 = .ok (.aload_n 0, 1) := by decide +kernel
theorem dX3_misfit_32 : decode cX3_misfit 32 = .ok (.iload_n 1, 1) := by decide +kernel
theorem dX3_misfit_33 : decode cX3_misfit 33 = .ok (.aload_n 0, 1) := by decide +kernel
theorem dX3_misfit_34 : decode cX3_misfit 34 = .ok (.iload_n 2, 1) := by decide +kernel
theorem dX3_misfit_35 : decode cX3_misfit 35 = .ok (.iload 5, 2) := by decide +kernel
theorem dX3_misfit_37 : decode cX3_misfit 37 = .ok (.invokevirtual 146, 3) := by decide +kernel
theorem dX3_misfit_40 : decode cX3_misfit 40 = .ok (.invokevirtual 95, 3) := by decide +kernel
theorem dX3_misfit_43 : decode cX3_misfit 43 = .ok (.aload_n 0, 1) := by decide +kernel
theorem dX3_misfit_44 : decode cX3_misfit 44 = .ok (.getfield 17, 3) := by decide +kernel
theorem dX3_misfit_47 : decode cX3_misfit 47 = .ok (.iload 5, 2) := by decide +kernel
theorem dX3_misfit_49 : decode cX3_misfit 49 = .ok (.iaload, 1) := by decide +kernel
theorem dX3_misfit_50 : decode cX3_misfit 50 = .ok (.i2l, 1) := by decide +kernel
theorem dX3_misfit_51 : decode cX3_misfit 51 = .ok (.lsub, 1) := by decide +kernel
theorem dX3_misfit_52 : decode cX3_misfit 52 = .ok (.invokestatic 59, 3) := by decide +kernel
theorem dX3_misfit_55 : decode cX3_misfit 55 = .ok (.lstore 6, 2) := by decide +kernel
theorem dX3_misfit_57 : decode cX3_misfit 57 = .ok (.lload 6, 2) := by decide +kernel
theorem dX3_misfit_59 : decode cX3_misfit 59 = .ok (.lload_n 3, 1) := by decide +kernel
theorem dX3_misfit_60 : decode cX3_misfit 60 = .ok (.lcmp, 1) := by decide +kernel
theorem dX3_misfit_61 : decode cX3_misfit 61 = .ok (.ifCond .le 8, 3) := by decide +kernel
theorem dX3_misfit_64 : decode cX3_misfit 64 = .ok (.lload 6, 2) := by decide +kernel
theorem dX3_misfit_66 : decode cX3_misfit 66 = .ok (.goto 4, 3) := by decide +kernel
theorem dX3_misfit_69 : decode cX3_misfit 69 = .ok (.lload_n 3, 1) := by decide +kernel
theorem dX3_misfit_70 : decode cX3_misfit 70 = .ok (.lstore_n 3, 1) := by decide +kernel
theorem dX3_misfit_71 : decode cX3_misfit 71 = .ok (.iinc 5 1, 3) := by decide +kernel
theorem dX3_misfit_74 : decode cX3_misfit 74 = .ok (.goto (-51), 3) := by decide +kernel
theorem dX3_misfit_77 : decode cX3_misfit 77 = .ok (.lload_n 3, 1) := by decide +kernel
theorem dX3_misfit_78 : decode cX3_misfit 78 = .ok (.lreturn, 1) := by decide +kernel
set_option maxRecDepth 20000 in
theorem ggX3_extremePoint_X3_isPower : GoodIn wsX3_extremePoint wsX3_isPower := goodIn_r _ [5, 6, 7, 8, 4, 9] (by decide +kernel) (by decide +kernel)
set_option maxRecDepth 20000 in
theorem gX3_extremePoint_X3_isPower : GoodIn wsX3_extremePoint (va_wsS RX3 140 yX3_isPower wsX3_isPower) := goodIn_app (goodIn_of _ (by decide +kernel)) ggX3_extremePoint_X3_isPower
set_option maxRecDepth 20000 in
theorem ggX3_extremePoint_X3_in : GoodIn wsX3_extremePoint wsX3_in := goodIn_r _ [9] (by decide +kernel) (by decide +kernel)
set_option maxRecDepth 20000 in
theorem gX3_extremePoint_X3_in : GoodIn wsX3_extremePoint (va_wsS RX3 39 yX3_in wsX3_in) := goodIn_app (goodIn_of _ (by decide +kernel)) ggX3_extremePoint_X3_in
set_option maxRecDepth 20000 in
theorem ggX3_extremePoint_X3_pointAt : GoodIn wsX3_extremePoint wsX3_pointAt := goodIn_r _ [13, 14, 15, 16, 4, 17, 18, 19, 20, 21, 22, 23, 24, 25, 26] (by decide +kernel) (by decide +kernel)
set_option maxRecDepth 20000 in
theorem gX3_extremePoint_X3_pointAt : GoodIn wsX3_extremePoint (wsV RX3 146 RX3 yX3_pointAt wsX3_pointAt) := goodIn_app (goodIn_of _ (by decide +kernel)) ggX3_extremePoint_X3_pointAt
theorem dX3_extremePoint_0 : decode cX3_extremePoint 0 = .ok (.iload_n 1, 1) := by decide +kernel
theorem dX3_extremePoint_1 : decode cX3_extremePoint 1 = .ok (.invokestatic 140, 3) := by decide +kernel
theorem dX3_extremePoint_4 : decode cX3_extremePoint 4 = .ok (.ifCond .eq 25, 3) := by decide +kernel
theorem dX3_extremePoint_7 : decode cX3_extremePoint 7 = .ok (.iload_n 2, 1) := by decide +kernel
theorem dX3_extremePoint_8 : decode cX3_extremePoint 8 = .ok (.i2l, 1) := by decide +kernel
theorem dX3_extremePoint_9 : decode cX3_extremePoint 9 = .ok (.lconst 0, 1) := by decide +kernel
theorem dX3_extremePoint_10 : decode cX3_extremePoint 10 = .ok (.iconst 1, 1) := by decide +kernel
theorem dX3_extremePoint_11 : decode cX3_extremePoint 11 = .ok (.iload_n 1, 1) := by decide +kernel
theorem dX3_extremePoint_12 : decode cX3_extremePoint 12 = .ok (.ishl, 1) := by decide +kernel
theorem dX3_extremePoint_13 : decode cX3_extremePoint 13 = .ok (.i2l, 1) := by decide +kernel
theorem dX3_extremePoint_14 : decode cX3_extremePoint 14 = .ok (.invokestatic 39, 3) := by decide +kernel
theorem dX3_extremePoint_17 : decode cX3_extremePoint 17 = .ok (.ifCond .eq 12, 3) := by decide +kernel
theorem dX3_extremePoint_20 : decode cX3_extremePoint 20 = .ok (.aload_n 0, 1) := by decide +kernel
theorem dX3_extremePoint_21 : decode cX3_extremePoint 21 = .ok (.iload_n 1, 1) := by decide +kernel
theorem dX3_extremePoint_22 : decode cX3_extremePoint 22 = .ok (.iload_n 2, 1) := by decide +kernel
theorem dX3_extremePoint_23 : decode cX3_extremePoint 23 = .ok (.invokevirtual 146, 3) := by decide +kernel
theorem dX3_extremePoint_26 : decode cX3_extremePoint 26 = .ok (.goto 6, 3) := by decide +kernel
theorem dX3_extremePoint_29 : decode cX3_extremePoint 29 = .ok (.ldc2_w 83, 3) := by decide +kernel
theorem dX3_extremePoint_32 : decode cX3_extremePoint 32 = .ok (.lreturn, 1) := by decide +kernel
theorem dX3_middle_0 : decode cX3_middle 0 = .ok (.iload_n 0, 1) := by decide +kernel
theorem dX3_middle_1 : decode cX3_middle 1 = .ok (.iload_n 1, 1) := by decide +kernel
theorem dX3_middle_2 : decode cX3_middle 2 = .ok (.iadd, 1) := by decide +kernel
theorem dX3_middle_3 : decode cX3_middle 3 = .ok (.iconst 1, 1) := by decide +kernel
theorem dX3_middle_4 : decode cX3_middle 4 = .ok (.ishr, 1) := by decide +kernel
theorem dX3_middle_5 : decode cX3_middle 5 = .ok (.ireturn, 1) := by decide +kernel
set_option maxRecDepth 20000 in
theorem ggX3_isFree_X3_middle : GoodIn wsX3_isFree wsX3_middle := goodIn_r _ [7] (by decide +kernel) (by decide +kernel)
set_option maxRecDepth 20000 in
theorem gX3_isFree_X3_middle : GoodIn wsX3_isFree (va_wsS RX3 149 yX3_middle wsX3_middle) := goodIn_app (goodIn_of _ (by decide +kernel)) ggX3_isFree_X3_middle
set_option maxRecDepth 20000 in
theorem ggX3_isFree_X3_of : GoodIn wsX3_isFree wsX3_of := goodIn_r _ [11, 12, 24, 25, 26, 27, 28, 29, 30, 31] (by decide +kernel) (by decide +kernel)
set_option maxRecDepth 20000 in
theorem gX3_isFree_X3_of : GoodIn wsX3_isFree (wsV RX3 53 RX3 yX3_of wsX3_of) := goodIn_app (goodIn_of _ (by decide +kernel)) ggX3_isFree_X3_of
set_option maxRecDepth 20000 in
theorem ggX3_isFree_X3_size : GoodIn wsX3_isFree wsX3_size := goodIn_r _ [15] (by decide +kernel) (by decide +kernel)
set_option maxRecDepth 20000 in
theorem gX3_isFree_X3_size : GoodIn wsX3_isFree (va_wsS RX3 59 yX3_size wsX3_size) := goodIn_app (goodIn_of _ (by decide +kernel)) ggX3_isFree_X3_size
set_option maxRecDepth 20000 in
theorem ggX3_isFree_X3_valueAt : GoodIn wsX3_isFree wsX3_valueAt := goodIn_r _ [19, 1, 20, 2, 8, 9, 10, 6, 11, 12, 21, 22, 23, 24, 25, 26, 27, 28, 29, 30, 31] (by decide +kernel) (by decide +kernel)
set_option maxRecDepth 20000 in
theorem gX3_isFree_X3_valueAt : GoodIn wsX3_isFree (wsV RX3 95 RX3 yX3_valueAt wsX3_valueAt) := goodIn_app (goodIn_of _ (by decide +kernel)) ggX3_isFree_X3_valueAt
set_option maxRecDepth 20000 in
theorem ggX3_isFree_X3_rounded : GoodIn wsX3_isFree wsX3_rounded := goodIn_r _ [23, 20] (by decide +kernel) (by decide +kernel)
