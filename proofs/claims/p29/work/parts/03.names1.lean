set_option maxRecDepth 20000 in
theorem ggX0_run_X0_steepnessOf : GoodIn wsX0_run wsX0_steepnessOf := goodIn_r _ [14, 15, 16, 8, 17, 18, 19, 20, 21, 22, 23, 24, 25, 26, 27, 28, 75, 76] (by decide +kernel) (by decide +kernel)
set_option maxRecDepth 20000 in
theorem gX0_run_X0_steepnessOf : GoodIn wsX0_run (va_wsS RX0 25 yX0_steepnessOf wsX0_steepnessOf) := goodIn_app (goodIn_of _ (by decide +kernel)) ggX0_run_X0_steepnessOf
set_option maxRecDepth 20000 in
theorem ggX0_run_X0_push : GoodIn wsX0_run wsX0_push := goodIn_r _ [32, 3, 33, 70, 71, 72, 73, 74] (by decide +kernel) (by decide +kernel)
set_option maxRecDepth 20000 in
theorem gX0_run_X0_push : GoodIn wsX0_run (wsV RX0 34 RX0 yX0_push wsX0_push) := goodIn_app (goodIn_of _ (by decide +kernel)) ggX0_run_X0_push
set_option maxRecDepth 20000 in
theorem ggX0_run_X0_nextEnd : GoodIn wsX0_run wsX0_nextEnd := goodIn_r _ [37, 3, 33, 70, 71, 72, 73, 74] (by decide +kernel) (by decide +kernel)
set_option maxRecDepth 20000 in
theorem gX0_run_X0_nextEnd : GoodIn wsX0_run (wsV RX0 40 RX0 yX0_nextEnd wsX0_nextEnd) := goodIn_app (goodIn_of _ (by decide +kernel)) ggX0_run_X0_nextEnd
set_option maxRecDepth 20000 in
theorem ggX0_run_J9_floorDiv_b2ac5 : GoodIn wsX0_run wsJ9_floorDiv_b2ac5 := goodIn_r _ [41, 42, 43, 40, 44] (by decide +kernel) (by decide +kernel)
set_option maxRecDepth 20000 in
theorem gX0_run_J9_floorDiv_b2ac5 : GoodIn wsX0_run (va_wsS RX0 44 yJ9_floorDiv_b2ac5 wsJ9_floorDiv_b2ac5) := goodIn_app (goodIn_of _ (by decide +kernel)) ggX0_run_J9_floorDiv_b2ac5
set_option maxRecDepth 20000 in
theorem ggX0_run_X0_isFree : GoodIn wsX0_run wsX0_isFree := goodIn_r _ [47, 48, 15, 16, 8, 17, 4, 18, 19, 20, 21, 22, 23, 49, 50, 51, 52, 53, 54, 55, 25, 26, 27, 28, 56, 57, 58, 59, 60, 43, 40, 44, 75, 76] (by decide +kernel) (by decide +kernel)
set_option maxRecDepth 20000 in
theorem gX0_run_X0_isFree : GoodIn wsX0_run (va_wsS RX0 54 yX0_isFree wsX0_isFree) := goodIn_app (goodIn_of _ (by decide +kernel)) ggX0_run_X0_isFree
set_option maxRecDepth 20000 in
theorem ggX0_run_X0_note : GoodIn wsX0_run wsX0_note := goodIn_r _ [64, 1, 10, 65, 66, 67, 68, 13, 69, 70, 71, 72, 73, 74] (by decide +kernel) (by decide +kernel)
set_option maxRecDepth 20000 in
theorem gX0_run_X0_note : GoodIn wsX0_run (wsV RX0 60 RX0 yX0_note wsX0_note) := goodIn_app (goodIn_of _ (by decide +kernel)) ggX0_run_X0_note
theorem dX0_run_0 : decode cX0_run 0 = .ok (.aload_n 1, 1) := by decide +kernel
theorem dX0_run_1 : decode cX0_run 1 = .ok (.invokestatic 25, 3) := by decide +kernel
theorem dX0_run_4 : decode cX0_run 4 = .ok (.lstore_n 2, 1) := by decide +kernel
theorem dX0_run_5 : decode cX0_run 5 = .ok (.aload_n 0, 1) := by decide +kernel
theorem dX0_run_6 : decode cX0_run 6 = .ok (.iconst 0, 1) := by decide +kernel
theorem dX0_run_7 : decode cX0_run 7 = .ok (.putfield 18, 3) := by decide +kernel
theorem dX0_run_10 : decode cX0_run 10 = .ok (.aload_n 0, 1) := by decide +kernel
theorem dX0_run_11 : decode cX0_run 11 = .ok (.iconst 0, 1) := by decide +kernel
theorem dX0_run_12 : decode cX0_run 12 = .ok (.putfield 22, 3) := by decide +kernel
theorem dX0_run_15 : decode cX0_run 15 = .ok (.aload_n 0, 1) := by decide +kernel
theorem dX0_run_16 : decode cX0_run 16 = .ok (.iconst 0, 1) := by decide +kernel
theorem dX0_run_17 : decode cX0_run 17 = .ok (.putfield 29, 3) := by decide +kernel
theorem dX0_run_20 : decode cX0_run 20 = .ok (.aload_n 0, 1) := by decide +kernel
theorem dX0_run_21 : decode cX0_run 21 = .ok (.ldc2_w 32, 3) := by decide +kernel
theorem dX0_run_24 : decode cX0_run 24 = .ok (.invokevirtual 34, 3) := by decide +kernel
theorem dX0_run_27 : decode cX0_run 27 = .ok (.ldc2_w 38, 3) := by decide +kernel
theorem dX0_run_30 : decode cX0_run 30 = .ok (.lstore 4, 2) := by decide +kernel
theorem dX0_run_32 : decode cX0_run 32 = .ok (.aload_n 0, 1) := by decide +kernel
theorem dX0_run_33 : decode cX0_run 33 = .ok (.getfield 29, 3) := by decide +kernel
theorem dX0_run_36 : decode cX0_run 36 = .ok (.ifCond .le 127, 3) := by decide +kernel
theorem dX0_run_39 : decode cX0_run 39 = .ok (.aload_n 0, 1) := by decide +kernel
theorem dX0_run_40 : decode cX0_run 40 = .ok (.getfield 18, 3) := by decide +kernel
theorem dX0_run_43 : decode cX0_run 43 = .ok (.bipush 24, 2) := by decide +kernel
theorem dX0_run_45 : decode cX0_run 45 = .ok (.if_icmp .ge 118, 3) := by decide +kernel
theorem dX0_run_48 : decode cX0_run 48 = .ok (.aload_n 0, 1) := by decide +kernel
theorem dX0_run_49 : decode cX0_run 49 = .ok (.getfield 22, 3) := by decide +kernel
theorem dX0_run_52 : decode cX0_run 52 = .ok (.sipush 2000, 3) := by decide +kernel
theorem dX0_run_55 : decode cX0_run 55 = .ok (.if_icmp .ge 108, 3) := by decide +kernel
theorem dX0_run_58 : decode cX0_run 58 = .ok (.aload_n 0, 1) := by decide +kernel
theorem dX0_run_59 : decode cX0_run 59 = .ok (.dup, 1) := by decide +kernel
theorem dX0_run_60 : decode cX0_run 60 = .ok (.getfield 22, 3) := by decide +kernel
theorem dX0_run_63 : decode cX0_run 63 = .ok (.iconst 1, 1) := by decide +kernel
theorem dX0_run_64 : decode cX0_run 64 = .ok (.iadd, 1) := by decide +kernel
theorem dX0_run_65 : decode cX0_run 65 = .ok (.putfield 22, 3) := by decide +kernel
theorem dX0_run_68 : decode cX0_run 68 = .ok (.aload_n 0, 1) := by decide +kernel
theorem dX0_run_69 : decode cX0_run 69 = .ok (.invokevirtual 40, 3) := by decide +kernel
theorem dX0_run_72 : decode cX0_run 72 = .ok (.lstore 6, 2) := by decide +kernel
theorem dX0_run_74 : decode cX0_run 74 = .ok (.lload 4, 2) := by decide +kernel
theorem dX0_run_76 : decode cX0_run 76 = .ok (.lload 6, 2) := by decide +kernel
theorem dX0_run_78 : decode cX0_run 78 = .ok (.ladd, 1) := by decide +kernel
theorem dX0_run_79 : decode cX0_run 79 = .ok (.iconst 2, 1) := by decide +kernel
theorem dX0_run_80 : decode cX0_run 80 = .ok (.invokestatic 44, 3) := by decide +kernel
theorem dX0_run_83 : decode cX0_run 83 = .ok (.lstore 8, 2) := by decide +kernel
theorem dX0_run_85 : decode cX0_run 85 = .ok (.aload_n 1, 1) := by decide +kernel
theorem dX0_run_86 : decode cX0_run 86 = .ok (.lload_n 2, 1) := by decide +kernel
theorem dX0_run_87 : decode cX0_run 87 = .ok (.lload 8, 2) := by decide +kernel
theorem dX0_run_89 : decode cX0_run 89 = .ok (.lload 6, 2) := by decide +kernel
theorem dX0_run_91 : decode cX0_run 91 = .ok (.lload 8, 2) := by decide +kernel
theorem dX0_run_93 : decode cX0_run 93 = .ok (.lsub, 1) := by decide +kernel
theorem dX0_run_94 : decode cX0_run 94 = .ok (.lload 8, 2) := by decide +kernel
theorem dX0_run_96 : decode cX0_run 96 = .ok (.lload 4, 2) := by decide +kernel
theorem dX0_run_98 : decode cX0_run 98 = .ok (.lsub, 1) := by decide +kernel
theorem dX0_run_99 : decode cX0_run 99 = .ok (.invokestatic 50, 3) := by decide +kernel
theorem dX0_run_102 : decode cX0_run 102 = .ok (.invokestatic 54, 3) := by decide +kernel
theorem dX0_run_105 : decode cX0_run 105 = .ok (.istore 10, 2) := by decide +kernel
theorem dX0_run_107 : decode cX0_run 107 = .ok (.iload 10, 2) := by decide +kernel
theorem dX0_run_109 : decode cX0_run 109 = .ok (.ifCond .ne 24, 3) := by decide +kernel
theorem dX0_run_112 : decode cX0_run 112 = .ok (.lload 6, 2) := by decide +kernel
theorem dX0_run_114 : decode cX0_run 114 = .ok (.lload 4, 2) := by decide +kernel
theorem dX0_run_116 : decode cX0_run 116 = .ok (.lsub, 1) := by decide +kernel
theorem dX0_run_117 : decode cX0_run 117 = .ok (.ldc2_w 58, 3) := by decide +kernel
theorem dX0_run_120 : decode cX0_run 120 = .ok (.lcmp, 1) := by decide +kernel
theorem dX0_run_121 : decode cX0_run 121 = .ok (.ifCond .le 12, 3) := by decide +kernel
theorem dX0_run_124 : decode cX0_run 124 = .ok (.aload_n 0, 1) := by decide +kernel
theorem dX0_run_125 : decode cX0_run 125 = .ok (.lload 8, 2) := by decide +kernel
theorem dX0_run_127 : decode cX0_run 127 = .ok (.invokevirtual 34, 3) := by decide +kernel
theorem dX0_run_130 : decode cX0_run 130 = .ok (.goto 30, 3) := by decide +kernel
theorem dX0_run_133 : decode cX0_run 133 = .ok (.iload 10, 2) := by decide +kernel
theorem dX0_run_135 : decode cX0_run 135 = .ok (.ifCond .ne 11, 3) := by decide +kernel
theorem dX0_run_138 : decode cX0_run 138 = .ok (.aload_n 0, 1) := by decide +kernel
theorem dX0_run_139 : decode cX0_run 139 = .ok (.lload 8, 2) := by decide +kernel
theorem dX0_run_141 : decode cX0_run 141 = .ok (.lload 4, 2) := by decide +kernel
theorem dX0_run_143 : decode cX0_run 143 = .ok (.invokevirtual 60, 3) := by decide +kernel
theorem dX0_run_146 : decode cX0_run 146 = .ok (.aload_n 0, 1) := by decide +kernel
theorem dX0_run_147 : decode cX0_run 147 = .ok (.dup, 1) := by decide +kernel
theorem dX0_run_148 : decode cX0_run 148 = .ok (.getfield 29, 3) := by decide +kernel
theorem dX0_run_151 : decode cX0_run 151 = .ok (.iconst 1, 1) := by decide +kernel
theorem dX0_run_152 : decode cX0_run 152 = .ok (.isub, 1) := by decide +kernel
theorem dX0_run_153 : decode cX0_run 153 = .ok (.putfield 29, 3) := by decide +kernel
theorem dX0_run_156 : decode cX0_run 156 = .ok (.lload 6, 2) := by decide +kernel
theorem dX0_run_158 : decode cX0_run 158 = .ok (.lstore 4, 2) := by decide +kernel
theorem dX0_run_160 : decode cX0_run 160 = .ok (.goto (-128), 3) := by decide +kernel
theorem dX0_run_163 : decode cX0_run 163 = .ok (.return_, 1) := by decide +kernel
set_option maxRecDepth 20000 in
theorem ggX0_steepnessOf_X1_top : GoodIn wsX0_steepnessOf wsX1_top := goodIn_r _ [9, 10, 16, 17] (by decide +kernel) (by decide +kernel)
set_option maxRecDepth 20000 in
theorem gX0_steepnessOf_X1_top : GoodIn wsX0_steepnessOf (wsV RX0 64 RX1 yX1_top wsX1_top) := goodIn_app (goodIn_of _ (by decide +kernel)) ggX0_steepnessOf_X1_top
set_option maxRecDepth 20000 in
theorem ggX0_steepnessOf_X1_at : GoodIn wsX0_steepnessOf wsX1_at := goodIn_r _ [14, 15, 16, 17] (by decide +kernel) (by decide +kernel)
set_option maxRecDepth 20000 in
theorem gX0_steepnessOf_X1_at : GoodIn wsX0_steepnessOf (wsV RX0 70 RX1 yX1_at wsX1_at) := goodIn_app (goodIn_of _ (by decide +kernel)) ggX0_steepnessOf_X1_at
theorem dX0_steepnessOf_0 : decode cX0_steepnessOf 0 = .ok (.lconst 0, 1) := by decide +kernel
theorem dX0_steepnessOf_1 : decode cX0_steepnessOf 1 = .ok (.lstore_n 1, 1) := by decide +kernel
theorem dX0_steepnessOf_2 : decode cX0_steepnessOf 2 = .ok (.iconst 1, 1) := by decide +kernel
theorem dX0_steepnessOf_3 : decode cX0_steepnessOf 3 = .ok (.istore_n 3, 1) := by decide +kernel
theorem dX0_steepnessOf_4 : decode cX0_steepnessOf 4 = .ok (.iload_n 3, 1) := by decide +kernel
theorem dX0_steepnessOf_5 : decode cX0_steepnessOf 5 = .ok (.aload_n 0, 1) := by decide +kernel
theorem dX0_steepnessOf_6 : decode cX0_steepnessOf 6 = .ok (.invokevirtual 64, 3) := by decide +kernel
theorem dX0_steepnessOf_9 : decode cX0_steepnessOf 9 = .ok (.if_icmp .gt 25, 3) := by decide +kernel
theorem dX0_steepnessOf_12 : decode cX0_steepnessOf 12 = .ok (.lload_n 1, 1) := by decide +kernel
theorem dX0_steepnessOf_13 : decode cX0_steepnessOf 13 = .ok (.iload_n 3, 1) := by decide +kernel
theorem dX0_steepnessOf_14 : decode cX0_steepnessOf 14 = .ok (.iload_n 3, 1) := by decide +kernel
theorem dX0_steepnessOf_15 : decode cX0_steepnessOf 15 = .ok (.imul, 1) := by decide +kernel
theorem dX0_steepnessOf_16 : decode cX0_steepnessOf 16 = .ok (.i2l, 1) := by decide +kernel
theorem dX0_steepnessOf_17 : decode cX0_steepnessOf 17 = .ok (.aload_n 0, 1) := by decide +kernel
theorem dX0_steepnessOf_18 : decode cX0_steepnessOf 18 = .ok (.iload_n 3, 1) := by decide +kernel
theorem dX0_steepnessOf_19 : decode cX0_steepnessOf 19 = .ok (.invokevirtual 70, 3) := by decide +kernel
theorem dX0_steepnessOf_22 : decode cX0_steepnessOf 22 = .ok (.invokestatic 74, 3) := by decide +kernel
theorem dX0_steepnessOf_25 : decode cX0_steepnessOf 25 = .ok (.lmul, 1) := by decide +kernel
theorem dX0_steepnessOf_26 : decode cX0_steepnessOf 26 = .ok (.ladd, 1) := by decide +kernel
theorem dX0_steepnessOf_27 : decode cX0_steepnessOf 27 = .ok (.lstore_n 1, 1) := by decide +kernel
theorem dX0_steepnessOf_28 : decode cX0_steepnessOf 28 = .ok (.iinc 3 1, 3) := by decide +kernel
theorem dX0_steepnessOf_31 : decode cX0_steepnessOf 31 = .ok (.goto (-27), 3) := by decide +kernel
theorem dX0_steepnessOf_34 : decode cX0_steepnessOf 34 = .ok (.lload_n 1, 1) := by decide +kernel
theorem dX0_steepnessOf_35 : decode cX0_steepnessOf 35 = .ok (.lreturn, 1) := by decide +kernel
set_option maxRecDepth 20000 in
theorem ggX0_isFree_X1_top : GoodIn wsX0_isFree wsX1_top := goodIn_r _ [11, 12, 32, 33] (by decide +kernel) (by decide +kernel)
set_option maxRecDepth 20000 in
theorem gX0_isFree_X1_top : GoodIn wsX0_isFree (wsV RX0 64 RX1 yX1_top wsX1_top) := goodIn_app (goodIn_of _ (by decide +kernel)) ggX0_isFree_X1_top
set_option maxRecDepth 20000 in
theorem ggX0_isFree_X1_valueAt : GoodIn wsX0_isFree wsX1_valueAt := goodIn_r _ [16, 12, 17, 18, 19, 20, 21, 10, 22, 23, 24, 25, 26, 27, 28, 29, 30, 31, 32, 33] (by decide +kernel) (by decide +kernel)
set_option maxRecDepth 20000 in
theorem gX0_isFree_X1_valueAt : GoodIn wsX0_isFree (wsV RX0 80 RX1 yX1_valueAt wsX1_valueAt) := goodIn_app (goodIn_of _ (by decide +kernel)) ggX0_isFree_X1_valueAt
set_option maxRecDepth 20000 in
theorem ggX0_isFree_X2_rounded : GoodIn wsX0_isFree wsX2_rounded := goodIn_r _ [26, 27, 28, 29, 30, 31] (by decide +kernel) (by decide +kernel)
set_option maxRecDepth 20000 in
theorem gX0_isFree_X2_rounded_n83 : GoodIn wsX0_isFree (wsX2_rounded) := ggX0_isFree_X2_rounded
theorem dX0_isFree_0 : decode cX0_isFree 0 = .ok (.ldc2_w 78, 3) := by decide +kernel
theorem dX0_isFree_3 : decode cX0_isFree 3 = .ok (.aload_n 0, 1) := by decide +kernel
theorem dX0_isFree_4 : decode cX0_isFree 4 = .ok (.invokevirtual 64, 3) := by decide +kernel
theorem dX0_isFree_7 : decode cX0_isFree 7 = .ok (.iconst 1, 1) := by decide +kernel
theorem dX0_isFree_8 : decode cX0_isFree 8 = .ok (.iadd, 1) := by decide +kernel
theorem dX0_isFree_9 : decode cX0_isFree 9 = .ok (.i2l, 1) := by decide +kernel
theorem dX0_isFree_10 : decode cX0_isFree 10 = .ok (.lmul, 1) := by decide +kernel
theorem dX0_isFree_11 : decode cX0_isFree 11 = .ok (.lstore 7, 2) := by decide +kernel
theorem dX0_isFree_13 : decode cX0_isFree 13 = .ok (.aload_n 0, 1) := by decide +kernel
theorem dX0_isFree_14 : decode cX0_isFree 14 = .ok (.lload_n 3, 1) := by decide +kernel
theorem dX0_isFree_15 : decode cX0_isFree 15 = .ok (.invokevirtual 80, 3) := by decide +kernel
theorem dX0_isFree_18 : decode cX0_isFree 18 = .ok (.invokestatic 74, 3) := by decide +kernel
theorem dX0_isFree_21 : decode cX0_isFree 21 = .ok (.lload_n 1, 1) := by decide +kernel
theorem dX0_isFree_22 : decode cX0_isFree 22 = .ok (.lload 5, 2) := by decide +kernel
theorem dX0_isFree_24 : decode cX0_isFree 24 = .ok (.lmul, 1) := by decide +kernel
theorem dX0_isFree_25 : decode cX0_isFree 25 = .ok (.ldc2_w 32, 3) := by decide +kernel
theorem dX0_isFree_28 : decode cX0_isFree 28 = .ok (.invokestatic 83, 3) := by decide +kernel
theorem dX0_isFree_31 : decode cX0_isFree 31 = .ok (.lload 7, 2) := by decide +kernel
theorem dX0_isFree_33 : decode cX0_isFree 33 = .ok (.ladd, 1) := by decide +kernel
theorem dX0_isFree_34 : decode cX0_isFree 34 = .ok (.lcmp, 1) := by decide +kernel
theorem dX0_isFree_35 : decode cX0_isFree 35 = .ok (.ifCond .le 7, 3) := by decide +kernel
theorem dX0_isFree_38 : decode cX0_isFree 38 = .ok (.iconst 1, 1) := by decide +kernel
theorem dX0_isFree_39 : decode cX0_isFree 39 = .ok (.goto 4, 3) := by decide +kernel
theorem dX0_isFree_42 : decode cX0_isFree 42 = .ok (.iconst 0, 1) := by decide +kernel
theorem dX0_isFree_43 : decode cX0_isFree 43 = .ok (.ireturn, 1) := by decide +kernel
theorem dX0_push_0 : decode cX0_push 0 = .ok (.aload_n 0, 1) := by decide +kernel
theorem dX0_push_1 : decode cX0_push 1 = .ok (.getfield 29, 3) := by decide +kernel
theorem dX0_push_4 : decode cX0_push 4 = .ok (.ifCond .lt 35, 3) := by decide +kernel
theorem dX0_push_7 : decode cX0_push 7 = .ok (.aload_n 0, 1) := by decide +kernel
theorem dX0_push_8 : decode cX0_push 8 = .ok (.getfield 29, 3) := by decide +kernel
theorem dX0_push_11 : decode cX0_push 11 = .ok (.aload_n 0, 1) := by decide +kernel
theorem dX0_push_12 : decode cX0_push 12 = .ok (.getfield 15, 3) := by decide +kernel
theorem dX0_push_15 : decode cX0_push 15 = .ok (.arraylength, 1) := by decide +kernel
theorem dX0_push_16 : decode cX0_push 16 = .ok (.if_icmp .ge 23, 3) := by decide +kernel
theorem dX0_push_19 : decode cX0_push 19 = .ok (.aload_n 0, 1) := by decide +kernel
theorem dX0_push_20 : decode cX0_push 20 = .ok (.getfield 15, 3) := by decide +kernel
theorem dX0_push_23 : decode cX0_push 23 = .ok (.aload_n 0, 1) := by decide +kernel
theorem dX0_push_24 : decode cX0_push 24 = .ok (.getfield 29, 3) := by decide +kernel
theorem dX0_push_27 : decode cX0_push 27 = .ok (.lload_n 1, 1) := by decide +kernel
theorem dX0_push_28 : decode cX0_push 28 = .ok (.lastore, 1) := by decide +kernel
theorem dX0_push_29 : decode cX0_push 29 = .ok (.aload_n 0, 1) := by decide +kernel
theorem dX0_push_30 : decode cX0_push 30 = .ok (.dup, 1) := by decide +kernel
theorem dX0_push_31 : decode cX0_push 31 = .ok (.getfield 29, 3) := by decide +kernel
theorem dX0_push_34 : decode cX0_push 34 = .ok (.iconst 1, 1) := by decide +kernel
theorem dX0_push_35 : decode cX0_push 35 = .ok (.iadd, 1) := by decide +kernel
theorem dX0_push_36 : decode cX0_push 36 = .ok (.putfield 29, 3) := by decide +kernel
theorem dX0_push_39 : decode cX0_push 39 = .ok (.return_, 1) := by decide +kernel
theorem dX0_nextEnd_0 : decode cX0_nextEnd 0 = .ok (.aload_n 0, 1) := by decide +kernel
theorem dX0_nextEnd_1 : decode cX0_nextEnd 1 = .ok (.getfield 29, 3) := by decide +kernel
theorem dX0_nextEnd_4 : decode cX0_nextEnd 4 = .ok (.iconst 1, 1) := by decide +kernel
theorem dX0_nextEnd_5 : decode cX0_nextEnd 5 = .ok (.isub, 1) := by decide +kernel
theorem dX0_nextEnd_6 : decode cX0_nextEnd 6 = .ok (.istore_n 1, 1) := by decide +kernel
theorem dX0_nextEnd_7 : decode cX0_nextEnd 7 = .ok (.iload_n 1, 1) := by decide +kernel
theorem dX0_nextEnd_8 : decode cX0_nextEnd 8 = .ok (.ifCond .lt 21, 3) := by decide +kernel
theorem dX0_nextEnd_11 : decode cX0_nextEnd 11 = .ok (.iload_n 1, 1) := by decide +kernel
theorem dX0_nextEnd_12 : decode cX0_nextEnd 12 = .ok (.aload_n 0, 1) := by decide +kernel
theorem dX0_nextEnd_13 : decode cX0_nextEnd 13 = .ok (.getfield 15, 3) := by decide +kernel
theorem dX0_nextEnd_16 : decode cX0_nextEnd 16 = .ok (.arraylength, 1) := by decide +kernel
theorem dX0_nextEnd_17 : decode cX0_nextEnd 17 = .ok (.if_icmp .ge 12, 3) := by decide +kernel
theorem dX0_nextEnd_20 : decode cX0_nextEnd 20 = .ok (.aload_n 0, 1) := by decide +kernel
theorem dX0_nextEnd_21 : decode cX0_nextEnd 21 = .ok (.getfield 15, 3) := by decide +kernel
theorem dX0_nextEnd_24 : decode cX0_nextEnd 24 = .ok (.iload_n 1, 1) := by decide +kernel
theorem dX0_nextEnd_25 : decode cX0_nextEnd 25 = .ok (.laload, 1) := by decide +kernel
theorem dX0_nextEnd_26 : decode cX0_nextEnd 26 = .ok (.goto 4, 3) := by decide +kernel
theorem dX0_nextEnd_29 : decode cX0_nextEnd 29 = .ok (.lconst 0, 1) := by decide +kernel
theorem dX0_nextEnd_30 : decode cX0_nextEnd 30 = .ok (.lreturn, 1) := by decide +kernel
set_option maxRecDepth 20000 in
theorem ggX0_note_X0_found : GoodIn wsX0_note wsX0_found := goodIn_r _ [8, 3, 9, 10, 11, 12, 13] (by decide +kernel) (by decide +kernel)
set_option maxRecDepth 20000 in
theorem gX0_note_X0_found : GoodIn wsX0_note (wsV RX0 86 RX0 yX0_found wsX0_found) := goodIn_app (goodIn_of _ (by decide +kernel)) ggX0_note_X0_found
theorem dX0_note_0 : decode cX0_note 0 = .ok (.aload_n 0, 1) := by decide +kernel
theorem dX0_note_1 : decode cX0_note 1 = .ok (.getfield 18, 3) := by decide +kernel
theorem dX0_note_4 : decode cX0_note 4 = .ok (.ifCond .le 23, 3) := by decide +kernel
theorem dX0_note_7 : decode cX0_note 7 = .ok (.aload_n 0, 1) := by decide +kernel
theorem dX0_note_8 : decode cX0_note 8 = .ok (.aload_n 0, 1) := by decide +kernel
theorem dX0_note_9 : decode cX0_note 9 = .ok (.getfield 18, 3) := by decide +kernel
theorem dX0_note_12 : decode cX0_note 12 = .ok (.iconst 1, 1) := by decide +kernel
theorem dX0_note_13 : decode cX0_note 13 = .ok (.isub, 1) := by decide +kernel
theorem dX0_note_14 : decode cX0_note 14 = .ok (.invokevirtual 86, 3) := by decide +kernel
theorem dX0_note_17 : decode cX0_note 17 = .ok (.lload_n 3, 1) := by decide +kernel
theorem dX0_note_18 : decode cX0_note 18 = .ok (.ldc2_w 58, 3) := by decide +kernel
theorem dX0_note_21 : decode cX0_note 21 = .ok (.lsub, 1) := by decide +kernel
theorem dX0_note_22 : decode cX0_note 22 = .ok (.lcmp, 1) := by decide +kernel
theorem dX0_note_23 : decode cX0_note 23 = .ok (.ifCond .lt 4, 3) := by decide +kernel
theorem dX0_note_26 : decode cX0_note 26 = .ok (.return_, 1) := by decide +kernel
theorem dX0_note_27 : decode cX0_note 27 = .ok (.aload_n 0, 1) := by decide +kernel
theorem dX0_note_28 : decode cX0_note 28 = .ok (.getfield 18, 3) := by decide +kernel
theorem dX0_note_31 : decode cX0_note 31 = .ok (.ifCond .lt 35, 3) := by decide +kernel
theorem dX0_note_34 : decode cX0_note 34 = .ok (.aload_n 0, 1) := by decide +kernel
theorem dX0_note_35 : decode cX0_note 35 = .ok (.getfield 18, 3) := by decide +kernel
theorem dX0_note_38 : decode cX0_note 38 = .ok (.aload_n 0, 1) := by decide +kernel
theorem dX0_note_39 : decode cX0_note 39 = .ok (.getfield 11, 3) := by decide +kernel
theorem dX0_note_42 : decode cX0_note 42 = .ok (.arraylength, 1) := by decide +kernel
theorem dX0_note_43 : decode cX0_note 43 = .ok (.if_icmp .ge 23, 3) := by decide +kernel
theorem dX0_note_46 : decode cX0_note 46 = .ok (.aload_n 0, 1) := by decide +kernel
theorem dX0_note_47 : decode cX0_note 47 = .ok (.getfield 11, 3) := by decide +kernel
theorem dX0_note_50 : decode cX0_note 50 = .ok (.aload_n 0, 1) := by decide +kernel
theorem dX0_note_51 : decode cX0_note 51 = .ok (.getfield 18, 3) := by decide +kernel
theorem dX0_note_54 : decode cX0_note 54 = .ok (.lload_n 1, 1) := by decide +kernel
theorem dX0_note_55 : decode cX0_note 55 = .ok (.lastore, 1) := by decide +kernel
theorem dX0_note_56 : decode cX0_note 56 = .ok (.aload_n 0, 1) := by decide +kernel
theorem dX0_note_57 : decode cX0_note 57 = .ok (.dup, 1) := by decide +kernel
theorem dX0_note_58 : decode cX0_note 58 = .ok (.getfield 18, 3) := by decide +kernel
theorem dX0_note_61 : decode cX0_note 61 = .ok (.iconst 1, 1) := by decide +kernel
theorem dX0_note_62 : decode cX0_note 62 = .ok (.iadd, 1) := by decide +kernel
theorem dX0_note_63 : decode cX0_note 63 = .ok (.putfield 18, 3) := by decide +kernel
theorem dX0_note_66 : decode cX0_note 66 = .ok (.return_, 1) := by decide +kernel
theorem dX1_init_0 : decode cX1_init 0 = .ok (.aload_n 0, 1) := by decide +kernel
theorem dX1_init_1 : decode cX1_init 1 = .ok (.invokespecial 3, 3) := by decide +kernel
theorem dX1_init_4 : decode cX1_init 4 = .ok (.aload_n 0, 1) := by decide +kernel
theorem dX1_init_5 : decode cX1_init 5 = .ok (.bipush 49, 2) := by decide +kernel
theorem dX1_init_7 : decode cX1_init 7 = .ok (.newarray .long, 2) := by decide +kernel
theorem dX1_init_9 : decode cX1_init 9 = .ok (.putfield 9, 3) := by decide +kernel
theorem dX1_init_12 : decode cX1_init 12 = .ok (.return_, 1) := by decide +kernel
theorem dX1_top_0 : decode cX1_top 0 = .ok (.aload_n 0, 1) := by decide +kernel
theorem dX1_top_1 : decode cX1_top 1 = .ok (.getfield 15, 3) := by decide +kernel
theorem dX1_top_4 : decode cX1_top 4 = .ok (.ireturn, 1) := by decide +kernel
theorem dX1_at_0 : decode cX1_at 0 = .ok (.iload_n 1, 1) := by decide +kernel
theorem dX1_at_1 : decode cX1_at 1 = .ok (.ifCond .lt 21, 3) := by decide +kernel
theorem dX1_at_4 : decode cX1_at 4 = .ok (.iload_n 1, 1) := by decide +kernel
theorem dX1_at_5 : decode cX1_at 5 = .ok (.aload_n 0, 1) := by decide +kernel
theorem dX1_at_6 : decode cX1_at 6 = .ok (.getfield 9, 3) := by decide +kernel
theorem dX1_at_9 : decode cX1_at 9 = .ok (.arraylength, 1) := by decide +kernel
theorem dX1_at_10 : decode cX1_at 10 = .ok (.if_icmp .ge 12, 3) := by decide +kernel
theorem dX1_at_13 : decode cX1_at 13 = .ok (.aload_n 0, 1) := by decide +kernel
theorem dX1_at_14 : decode cX1_at 14 = .ok (.getfield 9, 3) := by decide +kernel
theorem dX1_at_17 : decode cX1_at 17 = .ok (.iload_n 1, 1) := by decide +kernel
theorem dX1_at_18 : decode cX1_at 18 = .ok (.laload, 1) := by decide +kernel
theorem dX1_at_19 : decode cX1_at 19 = .ok (.goto 4, 3) := by decide +kernel
theorem dX1_at_22 : decode cX1_at 22 = .ok (.lconst 0, 1) := by decide +kernel
theorem dX1_at_23 : decode cX1_at 23 = .ok (.lreturn, 1) := by decide +kernel
theorem dX1_put_0 : decode cX1_put 0 = .ok (.iload_n 1, 1) := by decide +kernel
theorem dX1_put_1 : decode cX1_put 1 = .ok (.ifCond .lt 19, 3) := by decide +kernel
theorem dX1_put_4 : decode cX1_put 4 = .ok (.iload_n 1, 1) := by decide +kernel
theorem dX1_put_5 : decode cX1_put 5 = .ok (.aload_n 0, 1) := by decide +kernel
theorem dX1_put_6 : decode cX1_put 6 = .ok (.getfield 9, 3) := by decide +kernel
theorem dX1_put_9 : decode cX1_put 9 = .ok (.arraylength, 1) := by decide +kernel
theorem dX1_put_10 : decode cX1_put 10 = .ok (.if_icmp .ge 10, 3) := by decide +kernel
theorem dX1_put_13 : decode cX1_put 13 = .ok (.aload_n 0, 1) := by decide +kernel
theorem dX1_put_14 : decode cX1_put 14 = .ok (.getfield 9, 3) := by decide +kernel
theorem dX1_put_17 : decode cX1_put 17 = .ok (.iload_n 1, 1) := by decide +kernel
theorem dX1_put_18 : decode cX1_put 18 = .ok (.lload_n 2, 1) := by decide +kernel
theorem dX1_put_19 : decode cX1_put 19 = .ok (.lastore, 1) := by decide +kernel
theorem dX1_put_20 : decode cX1_put 20 = .ok (.return_, 1) := by decide +kernel
set_option maxRecDepth 20000 in
theorem ggX1_clear_J7_fill_d0a16 : GoodIn wsX1_clear wsJ7_fill_d0a16 := goodIn_r _ [6] (by decide +kernel) (by decide +kernel)
set_option maxRecDepth 20000 in
theorem gX1_clear_J7_fill_d0a16 : GoodIn wsX1_clear (va_wsS RX1 19 yJ7_fill_d0a16 wsJ7_fill_d0a16) := goodIn_app (goodIn_of _ (by decide +kernel)) ggX1_clear_J7_fill_d0a16
theorem dX1_clear_0 : decode cX1_clear 0 = .ok (.aload_n 0, 1) := by decide +kernel
theorem dX1_clear_1 : decode cX1_clear 1 = .ok (.getfield 9, 3) := by decide +kernel
theorem dX1_clear_4 : decode cX1_clear 4 = .ok (.lconst 0, 1) := by decide +kernel
theorem dX1_clear_5 : decode cX1_clear 5 = .ok (.invokestatic 19, 3) := by decide +kernel
theorem dX1_clear_8 : decode cX1_clear 8 = .ok (.aload_n 0, 1) := by decide +kernel
theorem dX1_clear_9 : decode cX1_clear 9 = .ok (.iconst 0, 1) := by decide +kernel
theorem dX1_clear_10 : decode cX1_clear 10 = .ok (.putfield 15, 3) := by decide +kernel
theorem dX1_clear_13 : decode cX1_clear 13 = .ok (.return_, 1) := by decide +kernel
set_option maxRecDepth 20000 in
theorem ggX1_take_X1_at : GoodIn wsX1_take wsX1_at := goodIn_r _ [7, 1, 8, 9] (by decide +kernel) (by decide +kernel)
set_option maxRecDepth 20000 in
theorem gX1_take_X1_at : GoodIn wsX1_take (wsV RX1 25 RX1 yX1_at wsX1_at) := goodIn_app (goodIn_of _ (by decide +kernel)) ggX1_take_X1_at
theorem dX1_take_0 : decode cX1_take 0 = .ok (.iconst 0, 1) := by decide +kernel
theorem dX1_take_1 : decode cX1_take 1 = .ok (.istore_n 2, 1) := by decide +kernel
theorem dX1_take_2 : decode cX1_take 2 = .ok (.iload_n 2, 1) := by decide +kernel
theorem dX1_take_3 : decode cX1_take 3 = .ok (.aload_n 0, 1) := by decide +kernel
theorem dX1_take_4 : decode cX1_take 4 = .ok (.getfield 9, 3) := by decide +kernel
theorem dX1_take_7 : decode cX1_take 7 = .ok (.arraylength, 1) := by decide +kernel
theorem dX1_take_8 : decode cX1_take 8 = .ok (.if_icmp .ge 20, 3) := by decide +kernel
theorem dX1_take_11 : decode cX1_take 11 = .ok (.aload_n 0, 1) := by decide +kernel
theorem dX1_take_12 : decode cX1_take 12 = .ok (.getfield 9, 3) := by decide +kernel
theorem dX1_take_15 : decode cX1_take 15 = .ok (.iload_n 2, 1) := by decide +kernel
theorem dX1_take_16 : decode cX1_take 16 = .ok (.aload_n 1, 1) := by decide +kernel
theorem dX1_take_17 : decode cX1_take 17 = .ok (.iload_n 2, 1) := by decide +kernel
theorem dX1_take_18 : decode cX1_take 18 = .ok (.invokevirtual 25, 3) := by decide +kernel
theorem dX1_take_21 : decode cX1_take 21 = .ok (.lastore, 1) := by decide +kernel
theorem dX1_take_22 : decode cX1_take 22 = .ok (.iinc 2 1, 3) := by decide +kernel
theorem dX1_take_25 : decode cX1_take 25 = .ok (.goto (-23), 3) := by decide +kernel
theorem dX1_take_28 : decode cX1_take 28 = .ok (.aload_n 0, 1) := by decide +kernel
theorem dX1_take_29 : decode cX1_take 29 = .ok (.aload_n 1, 1) := by decide +kernel
theorem dX1_take_30 : decode cX1_take 30 = .ok (.getfield 15, 3) := by decide +kernel
theorem dX1_take_33 : decode cX1_take 33 = .ok (.putfield 15, 3) := by decide +kernel
theorem dX1_take_36 : decode cX1_take 36 = .ok (.return_, 1) := by decide +kernel
theorem dX1_trim_0 : decode cX1_trim 0 = .ok (.aload_n 0, 1) := by decide +kernel
theorem dX1_trim_1 : decode cX1_trim 1 = .ok (.iconst 0, 1) := by decide +kernel
theorem dX1_trim_2 : decode cX1_trim 2 = .ok (.putfield 15, 3) := by decide +kernel
theorem dX1_trim_5 : decode cX1_trim 5 = .ok (.iconst 1, 1) := by decide +kernel
theorem dX1_trim_6 : decode cX1_trim 6 = .ok (.istore_n 1, 1) := by decide +kernel
theorem dX1_trim_7 : decode cX1_trim 7 = .ok (.iload_n 1, 1) := by decide +kernel
theorem dX1_trim_8 : decode cX1_trim 8 = .ok (.aload_n 0, 1) := by decide +kernel
theorem dX1_trim_9 : decode cX1_trim 9 = .ok (.getfield 9, 3) := by decide +kernel
theorem dX1_trim_12 : decode cX1_trim 12 = .ok (.arraylength, 1) := by decide +kernel
theorem dX1_trim_13 : decode cX1_trim 13 = .ok (.if_icmp .ge 25, 3) := by decide +kernel
theorem dX1_trim_16 : decode cX1_trim 16 = .ok (.aload_n 0, 1) := by decide +kernel
theorem dX1_trim_17 : decode cX1_trim 17 = .ok (.getfield 9, 3) := by decide +kernel
theorem dX1_trim_20 : decode cX1_trim 20 = .ok (.iload_n 1, 1) := by decide +kernel
theorem dX1_trim_21 : decode cX1_trim 21 = .ok (.laload, 1) := by decide +kernel
theorem dX1_trim_22 : decode cX1_trim 22 = .ok (.lconst 0, 1) := by decide +kernel
theorem dX1_trim_23 : decode cX1_trim 23 = .ok (.lcmp, 1) := by decide +kernel
theorem dX1_trim_24 : decode cX1_trim 24 = .ok (.ifCond .eq 8, 3) := by decide +kernel
theorem dX1_trim_27 : decode cX1_trim 27 = .ok (.aload_n 0, 1) := by decide +kernel
theorem dX1_trim_28 : decode cX1_trim 28 = .ok (.iload_n 1, 1) := by decide +kernel
theorem dX1_trim_29 : decode cX1_trim 29 = .ok (.putfield 15, 3) := by decide +kernel
theorem dX1_trim_32 : decode cX1_trim 32 = .ok (.iinc 1 1, 3) := by decide +kernel
theorem dX1_trim_35 : decode cX1_trim 35 = .ok (.goto (-28), 3) := by decide +kernel
theorem dX1_trim_38 : decode cX1_trim 38 = .ok (.return_, 1) := by decide +kernel
theorem dX1_error_0 : decode cX1_error 0 = .ok (.aload_n 0, 1) := by decide +kernel
theorem dX1_error_1 : decode cX1_error 1 = .ok (.getfield 15, 3) := by decide +kernel
theorem dX1_error_4 : decode cX1_error 4 = .ok (.bipush 24, 2) := by decide +kernel
theorem dX1_error_6 : decode cX1_error 6 = .ok (.if_icmp .le 7, 3) := by decide +kernel
theorem dX1_error_9 : decode cX1_error 9 = .ok (.ldc2_w 29, 3) := by decide +kernel
theorem dX1_error_12 : decode cX1_error 12 = .ok (.lreturn, 1) := by decide +kernel
theorem dX1_error_13 : decode cX1_error 13 = .ok (.aload_n 0, 1) := by decide +kernel
theorem dX1_error_14 : decode cX1_error 14 = .ok (.getfield 9, 3) := by decide +kernel
theorem dX1_error_17 : decode cX1_error 17 = .ok (.astore_n 1, 1) := by decide +kernel
theorem dX1_error_18 : decode cX1_error 18 = .ok (.aload_n 1, 1) := by decide +kernel
theorem dX1_error_19 : decode cX1_error 19 = .ok (.arraylength, 1) := by decide +kernel
theorem dX1_error_20 : decode cX1_error 20 = .ok (.istore_n 2, 1) := by decide +kernel
theorem dX1_error_21 : decode cX1_error 21 = .ok (.iconst 0, 1) := by decide +kernel
theorem dX1_error_22 : decode cX1_error 22 = .ok (.istore_n 3, 1) := by decide +kernel
theorem dX1_error_23 : decode cX1_error 23 = .ok (.iload_n 3, 1) := by decide +kernel
theorem dX1_error_24 : decode cX1_error 24 = .ok (.iload_n 2, 1) := by decide +kernel
theorem dX1_error_25 : decode cX1_error 25 = .ok (.if_icmp .ge 30, 3) := by decide +kernel
theorem dX1_error_28 : decode cX1_error 28 = .ok (.aload_n 1, 1) := by decide +kernel
theorem dX1_error_29 : decode cX1_error 29 = .ok (.iload_n 3, 1) := by decide +kernel
theorem dX1_error_30 : decode cX1_error 30 = .ok (.laload, 1) := by decide +kernel
theorem dX1_error_31 : decode cX1_error 31 = .ok (.lstore 4, 2) := by decide +kernel
theorem dX1_error_33 : decode cX1_error 33 = .ok (.lload 4, 2) := by decide +kernel
theorem dX1_error_35 : decode cX1_error 35 = .ok (.invokestatic 31, 3) := by decide +kernel
theorem dX1_error_38 : decode cX1_error 38 = .ok (.ldc2_w 37, 3) := by decide +kernel
theorem dX1_error_41 : decode cX1_error 41 = .ok (.lcmp, 1) := by decide +kernel
theorem dX1_error_42 : decode cX1_error 42 = .ok (.ifCond .le 7, 3) := by decide +kernel
theorem dX1_error_45 : decode cX1_error 45 = .ok (.ldc2_w 39, 3) := by decide +kernel
theorem dX1_error_48 : decode cX1_error 48 = .ok (.lreturn, 1) := by decide +kernel
theorem dX1_error_49 : decode cX1_error 49 = .ok (.iinc 3 1, 3) := by decide +kernel
theorem dX1_error_52 : decode cX1_error 52 = .ok (.goto (-29), 3) := by decide +kernel
theorem dX1_error_55 : decode cX1_error 55 = .ok (.lconst 0, 1) := by decide +kernel
theorem dX1_error_56 : decode cX1_error 56 = .ok (.lreturn, 1) := by decide +kernel
set_option maxRecDepth 20000 in
theorem ggX1_valueAt_X1_at : GoodIn wsX1_valueAt wsX1_at := goodIn_r _ [8, 9, 18, 19] (by decide +kernel) (by decide +kernel)
set_option maxRecDepth 20000 in
theorem gX1_valueAt_X1_at : GoodIn wsX1_valueAt (wsV RX1 25 RX1 yX1_at wsX1_at) := goodIn_app (goodIn_of _ (by decide +kernel)) ggX1_valueAt_X1_at
set_option maxRecDepth 20000 in
theorem ggX1_valueAt_X2_rounded : GoodIn wsX1_valueAt wsX2_rounded := goodIn_r _ [12, 13, 14, 15, 16, 17] (by decide +kernel) (by decide +kernel)
set_option maxRecDepth 20000 in
theorem gX1_valueAt_X2_rounded_n45 : GoodIn wsX1_valueAt (wsX2_rounded) := ggX1_valueAt_X2_rounded
theorem dX1_valueAt_0 : decode cX1_valueAt 0 = .ok (.lconst 0, 1) := by decide +kernel
theorem dX1_valueAt_1 : decode cX1_valueAt 1 = .ok (.lstore_n 3, 1) := by decide +kernel
theorem dX1_valueAt_2 : decode cX1_valueAt 2 = .ok (.lconst 0, 1) := by decide +kernel
theorem dX1_valueAt_3 : decode cX1_valueAt 3 = .ok (.lstore 5, 2) := by decide +kernel
theorem dX1_valueAt_5 : decode cX1_valueAt 5 = .ok (.aload_n 0, 1) := by decide +kernel
theorem dX1_valueAt_6 : decode cX1_valueAt 6 = .ok (.getfield 15, 3) := by decide +kernel
theorem dX1_valueAt_9 : decode cX1_valueAt 9 = .ok (.istore 7, 2) := by decide +kernel
theorem dX1_valueAt_11 : decode cX1_valueAt 11 = .ok (.iload 7, 2) := by decide +kernel
theorem dX1_valueAt_13 : decode cX1_valueAt 13 = .ok (.iconst 1, 1) := by decide +kernel
theorem dX1_valueAt_14 : decode cX1_valueAt 14 = .ok (.if_icmp .lt 40, 3) := by decide +kernel
theorem dX1_valueAt_17 : decode cX1_valueAt 17 = .ok (.aload_n 0, 1) := by decide +kernel
theorem dX1_valueAt_18 : decode cX1_valueAt 18 = .ok (.iload 7, 2) := by decide +kernel
theorem dX1_valueAt_20 : decode cX1_valueAt 20 = .ok (.invokevirtual 25, 3) := by decide +kernel
theorem dX1_valueAt_23 : decode cX1_valueAt 23 = .ok (.ldc2_w 41, 3) := by decide +kernel
theorem dX1_valueAt_26 : decode cX1_valueAt 26 = .ok (.lload_n 1, 1) := by decide +kernel
theorem dX1_valueAt_27 : decode cX1_valueAt 27 = .ok (.lmul, 1) := by decide +kernel
theorem dX1_valueAt_28 : decode cX1_valueAt 28 = .ok (.lload_n 3, 1) := by decide +kernel
theorem dX1_valueAt_29 : decode cX1_valueAt 29 = .ok (.lmul, 1) := by decide +kernel
theorem dX1_valueAt_30 : decode cX1_valueAt 30 = .ok (.ldc2_w 43, 3) := by decide +kernel
theorem dX1_valueAt_33 : decode cX1_valueAt 33 = .ok (.invokestatic 45, 3) := by decide +kernel
theorem dX1_valueAt_36 : decode cX1_valueAt 36 = .ok (.ladd, 1) := by decide +kernel
theorem dX1_valueAt_37 : decode cX1_valueAt 37 = .ok (.lload 5, 2) := by decide +kernel
theorem dX1_valueAt_39 : decode cX1_valueAt 39 = .ok (.lsub, 1) := by decide +kernel
theorem dX1_valueAt_40 : decode cX1_valueAt 40 = .ok (.lstore 8, 2) := by decide +kernel
theorem dX1_valueAt_42 : decode cX1_valueAt 42 = .ok (.lload_n 3, 1) := by decide +kernel
theorem dX1_valueAt_43 : decode cX1_valueAt 43 = .ok (.lstore 5, 2) := by decide +kernel
theorem dX1_valueAt_45 : decode cX1_valueAt 45 = .ok (.lload 8, 2) := by decide +kernel
theorem dX1_valueAt_47 : decode cX1_valueAt 47 = .ok (.lstore_n 3, 1) := by decide +kernel
theorem dX1_valueAt_48 : decode cX1_valueAt 48 = .ok (.iinc 7 (-1), 3) := by decide +kernel
theorem dX1_valueAt_51 : decode cX1_valueAt 51 = .ok (.goto (-40), 3) := by decide +kernel
theorem dX1_valueAt_54 : decode cX1_valueAt 54 = .ok (.aload_n 0, 1) := by decide +kernel
theorem dX1_valueAt_55 : decode cX1_valueAt 55 = .ok (.iconst 0, 1) := by decide +kernel
theorem dX1_valueAt_56 : decode cX1_valueAt 56 = .ok (.invokevirtual 25, 3) := by decide +kernel
theorem dX1_valueAt_59 : decode cX1_valueAt 59 = .ok (.lload_n 1, 1) := by decide +kernel
theorem dX1_valueAt_60 : decode cX1_valueAt 60 = .ok (.lload_n 3, 1) := by decide +kernel
theorem dX1_valueAt_61 : decode cX1_valueAt 61 = .ok (.lmul, 1) := by decide +kernel
theorem dX1_valueAt_62 : decode cX1_valueAt 62 = .ok (.ldc2_w 43, 3) := by decide +kernel
theorem dX1_valueAt_65 : decode cX1_valueAt 65 = .ok (.invokestatic 45, 3) := by decide +kernel
theorem dX1_valueAt_68 : decode cX1_valueAt 68 = .ok (.ladd, 1) := by decide +kernel
theorem dX1_valueAt_69 : decode cX1_valueAt 69 = .ok (.lload 5, 2) := by decide +kernel
theorem dX1_valueAt_71 : decode cX1_valueAt 71 = .ok (.lsub, 1) := by decide +kernel
theorem dX1_valueAt_72 : decode cX1_valueAt 72 = .ok (.lreturn, 1) := by decide +kernel
set_option maxRecDepth 20000 in
theorem ggX1_topWithin_X1_at : GoodIn wsX1_topWithin wsX1_at := goodIn_r _ [10, 11, 12, 13] (by decide +kernel) (by decide +kernel)
set_option maxRecDepth 20000 in
theorem gX1_topWithin_X1_at : GoodIn wsX1_topWithin (wsV RX1 25 RX1 yX1_at wsX1_at) := goodIn_app (goodIn_of _ (by decide +kernel)) ggX1_topWithin_X1_at
theorem dX1_topWithin_0 : decode cX1_topWithin 0 = .ok (.aload_n 0, 1) := by decide +kernel
theorem dX1_topWithin_1 : decode cX1_topWithin 1 = .ok (.getfield 15, 3) := by decide +kernel
theorem dX1_topWithin_4 : decode cX1_topWithin 4 = .ok (.istore_n 2, 1) := by decide +kernel
theorem dX1_topWithin_5 : decode cX1_topWithin 5 = .ok (.aload_n 0, 1) := by decide +kernel
theorem dX1_topWithin_6 : decode cX1_topWithin 6 = .ok (.iload_n 2, 1) := by decide +kernel
theorem dX1_topWithin_7 : decode cX1_topWithin 7 = .ok (.invokevirtual 25, 3) := by decide +kernel
theorem dX1_topWithin_10 : decode cX1_topWithin 10 = .ok (.invokestatic 31, 3) := by decide +kernel
theorem dX1_topWithin_13 : decode cX1_topWithin 13 = .ok (.lstore_n 3, 1) := by decide +kernel
theorem dX1_topWithin_14 : decode cX1_topWithin 14 = .ok (.iload_n 2, 1) := by decide +kernel
theorem dX1_topWithin_15 : decode cX1_topWithin 15 = .ok (.ifCond .le 27, 3) := by decide +kernel
theorem dX1_topWithin_18 : decode cX1_topWithin 18 = .ok (.lload_n 3, 1) := by decide +kernel
theorem dX1_topWithin_19 : decode cX1_topWithin 19 = .ok (.iload_n 1, 1) := by decide +kernel
theorem dX1_topWithin_20 : decode cX1_topWithin 20 = .ok (.i2l, 1) := by decide +kernel
theorem dX1_topWithin_21 : decode cX1_topWithin 21 = .ok (.lcmp, 1) := by decide +kernel
theorem dX1_topWithin_22 : decode cX1_topWithin 22 = .ok (.ifCond .gt 20, 3) := by decide +kernel
theorem dX1_topWithin_25 : decode cX1_topWithin 25 = .ok (.iinc 2 (-1), 3) := by decide +kernel
theorem dX1_topWithin_28 : decode cX1_topWithin 28 = .ok (.lload_n 3, 1) := by decide +kernel
theorem dX1_topWithin_29 : decode cX1_topWithin 29 = .ok (.aload_n 0, 1) := by decide +kernel
theorem dX1_topWithin_30 : decode cX1_topWithin 30 = .ok (.iload_n 2, 1) := by decide +kernel
theorem dX1_topWithin_31 : decode cX1_topWithin 31 = .ok (.invokevirtual 25, 3) := by decide +kernel
theorem dX1_topWithin_34 : decode cX1_topWithin 34 = .ok (.invokestatic 31, 3) := by decide +kernel
theorem dX1_topWithin_37 : decode cX1_topWithin 37 = .ok (.ladd, 1) := by decide +kernel
theorem dX1_topWithin_38 : decode cX1_topWithin 38 = .ok (.lstore_n 3, 1) := by decide +kernel
theorem dX1_topWithin_39 : decode cX1_topWithin 39 = .ok (.goto (-25), 3) := by decide +kernel
theorem dX1_topWithin_42 : decode cX1_topWithin 42 = .ok (.iload_n 2, 1) := by decide +kernel
theorem dX1_topWithin_43 : decode cX1_topWithin 43 = .ok (.ireturn, 1) := by decide +kernel
set_option maxRecDepth 20000 in
theorem ggX1_dropAbove_X1_trim : GoodIn wsX1_dropAbove wsX1_trim := goodIn_r _ [10, 11, 5, 12, 13] (by decide +kernel) (by decide +kernel)
set_option maxRecDepth 20000 in
theorem gX1_dropAbove_X1_trim : GoodIn wsX1_dropAbove (wsV RX1 53 RX1 yX1_trim wsX1_trim) := goodIn_app (goodIn_of _ (by decide +kernel)) ggX1_dropAbove_X1_trim
theorem dX1_dropAbove_0 : decode cX1_dropAbove 0 = .ok (.iload_n 1, 1) := by decide +kernel
theorem dX1_dropAbove_1 : decode cX1_dropAbove 1 = .ok (.iconst 0, 1) := by decide +kernel
theorem dX1_dropAbove_2 : decode cX1_dropAbove 2 = .ok (.invokestatic 49, 3) := by decide +kernel
theorem dX1_dropAbove_5 : decode cX1_dropAbove 5 = .ok (.iconst 1, 1) := by decide +kernel
theorem dX1_dropAbove_6 : decode cX1_dropAbove 6 = .ok (.iadd, 1) := by decide +kernel
theorem dX1_dropAbove_7 : decode cX1_dropAbove 7 = .ok (.istore_n 2, 1) := by decide +kernel
theorem dX1_dropAbove_8 : decode cX1_dropAbove 8 = .ok (.iload_n 2, 1) := by decide +kernel
theorem dX1_dropAbove_9 : decode cX1_dropAbove 9 = .ok (.aload_n 0, 1) := by decide +kernel
theorem dX1_dropAbove_10 : decode cX1_dropAbove 10 = .ok (.getfield 9, 3) := by decide +kernel
theorem dX1_dropAbove_13 : decode cX1_dropAbove 13 = .ok (.arraylength, 1) := by decide +kernel
theorem dX1_dropAbove_14 : decode cX1_dropAbove 14 = .ok (.if_icmp .ge 16, 3) := by decide +kernel
theorem dX1_dropAbove_17 : decode cX1_dropAbove 17 = .ok (.aload_n 0, 1) := by decide +kernel
theorem dX1_dropAbove_18 : decode cX1_dropAbove 18 = .ok (.getfield 9, 3) := by decide +kernel
theorem dX1_dropAbove_21 : decode cX1_dropAbove 21 = .ok (.iload_n 2, 1) := by decide +kernel
theorem dX1_dropAbove_22 : decode cX1_dropAbove 22 = .ok (.lconst 0, 1) := by decide +kernel
theorem dX1_dropAbove_23 : decode cX1_dropAbove 23 = .ok (.lastore, 1) := by decide +kernel
theorem dX1_dropAbove_24 : decode cX1_dropAbove 24 = .ok (.iinc 2 1, 3) := by decide +kernel
theorem dX1_dropAbove_27 : decode cX1_dropAbove 27 = .ok (.goto (-19), 3) := by decide +kernel
theorem dX1_dropAbove_30 : decode cX1_dropAbove 30 = .ok (.aload_n 0, 1) := by decide +kernel
theorem dX1_dropAbove_31 : decode cX1_dropAbove 31 = .ok (.invokevirtual 53, 3) := by decide +kernel
theorem dX1_dropAbove_34 : decode cX1_dropAbove 34 = .ok (.return_, 1) := by decide +kernel
set_option maxRecDepth 20000 in
theorem ggX1_placeOf_X1_at : GoodIn wsX1_placeOf wsX1_at := goodIn_r _ [10, 11, 12, 13] (by decide +kernel) (by decide +kernel)
set_option maxRecDepth 20000 in
theorem gX1_placeOf_X1_at : GoodIn wsX1_placeOf (wsV RX1 25 RX1 yX1_at wsX1_at) := goodIn_app (goodIn_of _ (by decide +kernel)) ggX1_placeOf_X1_at
theorem dX1_placeOf_0 : decode cX1_placeOf 0 = .ok (.aload_n 0, 1) := by decide +kernel
theorem dX1_placeOf_1 : decode cX1_placeOf 1 = .ok (.iload_n 1, 1) := by decide +kernel
theorem dX1_placeOf_2 : decode cX1_placeOf 2 = .ok (.invokevirtual 25, 3) := by decide +kernel
theorem dX1_placeOf_5 : decode cX1_placeOf 5 = .ok (.invokestatic 31, 3) := by decide +kernel
theorem dX1_placeOf_8 : decode cX1_placeOf 8 = .ok (.lstore_n 2, 1) := by decide +kernel
theorem dX1_placeOf_9 : decode cX1_placeOf 9 = .ok (.iconst 0, 1) := by decide +kernel
theorem dX1_placeOf_10 : decode cX1_placeOf 10 = .ok (.istore 4, 2) := by decide +kernel
theorem dX1_placeOf_12 : decode cX1_placeOf 12 = .ok (.iconst 0, 1) := by decide +kernel
theorem dX1_placeOf_13 : decode cX1_placeOf 13 = .ok (.istore 5, 2) := by decide +kernel
theorem dX1_placeOf_15 : decode cX1_placeOf 15 = .ok (.iload 5, 2) := by decide +kernel
theorem dX1_placeOf_17 : decode cX1_placeOf 17 = .ok (.aload_n 0, 1) := by decide +kernel
theorem dX1_placeOf_18 : decode cX1_placeOf 18 = .ok (.getfield 15, 3) := by decide +kernel
theorem dX1_placeOf_21 : decode cX1_placeOf 21 = .ok (.if_icmp .gt 43, 3) := by decide +kernel
theorem dX1_placeOf_24 : decode cX1_placeOf 24 = .ok (.aload_n 0, 1) := by decide +kernel
theorem dX1_placeOf_25 : decode cX1_placeOf 25 = .ok (.iload 5, 2) := by decide +kernel
theorem dX1_placeOf_27 : decode cX1_placeOf 27 = .ok (.invokevirtual 25, 3) := by decide +kernel
theorem dX1_placeOf_30 : decode cX1_placeOf 30 = .ok (.invokestatic 31, 3) := by decide +kernel
theorem dX1_placeOf_33 : decode cX1_placeOf 33 = .ok (.lstore 6, 2) := by decide +kernel
theorem dX1_placeOf_35 : decode cX1_placeOf 35 = .ok (.lload 6, 2) := by decide +kernel
theorem dX1_placeOf_37 : decode cX1_placeOf 37 = .ok (.lload_n 2, 1) := by decide +kernel
theorem dX1_placeOf_38 : decode cX1_placeOf 38 = .ok (.lcmp, 1) := by decide +kernel
theorem dX1_placeOf_39 : decode cX1_placeOf 39 = .ok (.ifCond .gt 16, 3) := by decide +kernel
theorem dX1_placeOf_42 : decode cX1_placeOf 42 = .ok (.lload 6, 2) := by decide +kernel
theorem dX1_placeOf_44 : decode cX1_placeOf 44 = .ok (.lload_n 2, 1) := by decide +kernel
theorem dX1_placeOf_45 : decode cX1_placeOf 45 = .ok (.lcmp, 1) := by decide +kernel
theorem dX1_placeOf_46 : decode cX1_placeOf 46 = .ok (.ifCond .ne 12, 3) := by decide +kernel
theorem dX1_placeOf_49 : decode cX1_placeOf 49 = .ok (.iload 5, 2) := by decide +kernel
theorem dX1_placeOf_51 : decode cX1_placeOf 51 = .ok (.iload_n 1, 1) := by decide +kernel
theorem dX1_placeOf_52 : decode cX1_placeOf 52 = .ok (.if_icmp .ge 6, 3) := by decide +kernel
theorem dX1_placeOf_55 : decode cX1_placeOf 55 = .ok (.iinc 4 1, 3) := by decide +kernel
theorem dX1_placeOf_58 : decode cX1_placeOf 58 = .ok (.iinc 5 1, 3) := by decide +kernel
theorem dX1_placeOf_61 : decode cX1_placeOf 61 = .ok (.goto (-46), 3) := by decide +kernel
theorem dX1_placeOf_64 : decode cX1_placeOf 64 = .ok (.iload 4, 2) := by decide +kernel
theorem dX1_placeOf_66 : decode cX1_placeOf 66 = .ok (.ireturn, 1) := by decide +kernel
set_option maxRecDepth 20000 in
theorem ggX1_becomeSum_X1_at : GoodIn wsX1_becomeSum wsX1_at := goodIn_r _ [6, 1, 12, 13] (by decide +kernel) (by decide +kernel)
set_option maxRecDepth 20000 in
theorem gX1_becomeSum_X1_at : GoodIn wsX1_becomeSum (wsV RX1 25 RX1 yX1_at wsX1_at) := goodIn_app (goodIn_of _ (by decide +kernel)) ggX1_becomeSum_X1_at
set_option maxRecDepth 20000 in
theorem ggX1_becomeSum_X1_trim : GoodIn wsX1_becomeSum wsX1_trim := goodIn_r _ [10, 11, 1, 12, 13] (by decide +kernel) (by decide +kernel)
set_option maxRecDepth 20000 in
theorem gX1_becomeSum_X1_trim : GoodIn wsX1_becomeSum (wsV RX1 53 RX1 yX1_trim wsX1_trim) := goodIn_app (goodIn_of _ (by decide +kernel)) ggX1_becomeSum_X1_trim
theorem dX1_becomeSum_0 : decode cX1_becomeSum 0 = .ok (.iconst 0, 1) := by decide +kernel
theorem dX1_becomeSum_1 : decode cX1_becomeSum 1 = .ok (.istore 5, 2) := by decide +kernel
theorem dX1_becomeSum_3 : decode cX1_becomeSum 3 = .ok (.iload 5, 2) := by decide +kernel
theorem dX1_becomeSum_5 : decode cX1_becomeSum 5 = .ok (.aload_n 0, 1) := by decide +kernel
theorem dX1_becomeSum_6 : decode cX1_becomeSum 6 = .ok (.getfield 9, 3) := by decide +kernel
theorem dX1_becomeSum_9 : decode cX1_becomeSum 9 = .ok (.arraylength, 1) := by decide +kernel
theorem dX1_becomeSum_10 : decode cX1_becomeSum 10 = .ok (.if_icmp .ge 36, 3) := by decide +kernel
theorem dX1_becomeSum_13 : decode cX1_becomeSum 13 = .ok (.aload_n 0, 1) := by decide +kernel
theorem dX1_becomeSum_14 : decode cX1_becomeSum 14 = .ok (.getfield 9, 3) := by decide +kernel
theorem dX1_becomeSum_17 : decode cX1_becomeSum 17 = .ok (.iload 5, 2) := by decide +kernel
theorem dX1_becomeSum_19 : decode cX1_becomeSum 19 = .ok (.iload_n 2, 1) := by decide +kernel
theorem dX1_becomeSum_20 : decode cX1_becomeSum 20 = .ok (.i2l, 1) := by decide +kernel
theorem dX1_becomeSum_21 : decode cX1_becomeSum 21 = .ok (.aload_n 1, 1) := by decide +kernel
theorem dX1_becomeSum_22 : decode cX1_becomeSum 22 = .ok (.iload 5, 2) := by decide +kernel
theorem dX1_becomeSum_24 : decode cX1_becomeSum 24 = .ok (.invokevirtual 25, 3) := by decide +kernel
theorem dX1_becomeSum_27 : decode cX1_becomeSum 27 = .ok (.lmul, 1) := by decide +kernel
theorem dX1_becomeSum_28 : decode cX1_becomeSum 28 = .ok (.iload 4, 2) := by decide +kernel
theorem dX1_becomeSum_30 : decode cX1_becomeSum 30 = .ok (.i2l, 1) := by decide +kernel
theorem dX1_becomeSum_31 : decode cX1_becomeSum 31 = .ok (.aload_n 3, 1) := by decide +kernel
theorem dX1_becomeSum_32 : decode cX1_becomeSum 32 = .ok (.iload 5, 2) := by decide +kernel
theorem dX1_becomeSum_34 : decode cX1_becomeSum 34 = .ok (.invokevirtual 25, 3) := by decide +kernel
theorem dX1_becomeSum_37 : decode cX1_becomeSum 37 = .ok (.lmul, 1) := by decide +kernel
theorem dX1_becomeSum_38 : decode cX1_becomeSum 38 = .ok (.ladd, 1) := by decide +kernel
theorem dX1_becomeSum_39 : decode cX1_becomeSum 39 = .ok (.lastore, 1) := by decide +kernel
theorem dX1_becomeSum_40 : decode cX1_becomeSum 40 = .ok (.iinc 5 1, 3) := by decide +kernel
theorem dX1_becomeSum_43 : decode cX1_becomeSum 43 = .ok (.goto (-40), 3) := by decide +kernel
theorem dX1_becomeSum_46 : decode cX1_becomeSum 46 = .ok (.aload_n 0, 1) := by decide +kernel
theorem dX1_becomeSum_47 : decode cX1_becomeSum 47 = .ok (.invokevirtual 53, 3) := by decide +kernel
theorem dX1_becomeSum_50 : decode cX1_becomeSum 50 = .ok (.return_, 1) := by decide +kernel
set_option maxRecDepth 20000 in
theorem ggX1_becomeProduct_X1_clear : GoodIn wsX1_becomeProduct wsX1_clear := goodIn_r _ [12, 6, 1, 13, 14, 15, 16, 37, 38] (by decide +kernel) (by decide +kernel)
set_option maxRecDepth 20000 in
theorem gX1_becomeProduct_X1_clear : GoodIn wsX1_becomeProduct (wsV RX1 56 RX1 yX1_clear wsX1_clear) := goodIn_app (goodIn_of _ (by decide +kernel)) ggX1_becomeProduct_X1_clear
set_option maxRecDepth 20000 in
theorem ggX1_becomeProduct_X1_at : GoodIn wsX1_becomeProduct wsX1_at := goodIn_r _ [20, 6, 37, 38] (by decide +kernel) (by decide +kernel)
set_option maxRecDepth 20000 in
theorem gX1_becomeProduct_X1_at : GoodIn wsX1_becomeProduct (wsV RX1 25 RX1 yX1_at wsX1_at) := goodIn_app (goodIn_of _ (by decide +kernel)) ggX1_becomeProduct_X1_at
set_option maxRecDepth 20000 in
theorem ggX1_becomeProduct_X1_put : GoodIn wsX1_becomeProduct wsX1_put := goodIn_r _ [24, 6, 37, 38] (by decide +kernel) (by decide +kernel)
set_option maxRecDepth 20000 in
theorem gX1_becomeProduct_X1_put : GoodIn wsX1_becomeProduct (wsV RX1 59 RX1 yX1_put wsX1_put) := goodIn_app (goodIn_of _ (by decide +kernel)) ggX1_becomeProduct_X1_put
set_option maxRecDepth 20000 in
theorem ggX1_becomeProduct_X2_rounded : GoodIn wsX1_becomeProduct wsX2_rounded := goodIn_r _ [27, 28, 29, 30, 31, 32] (by decide +kernel) (by decide +kernel)
set_option maxRecDepth 20000 in
theorem gX1_becomeProduct_X2_rounded_n45 : GoodIn wsX1_becomeProduct (wsX2_rounded) := ggX1_becomeProduct_X2_rounded
set_option maxRecDepth 20000 in
theorem ggX1_becomeProduct_X1_trim : GoodIn wsX1_becomeProduct wsX1_trim := goodIn_r _ [36, 1, 6, 37, 38] (by decide +kernel) (by decide +kernel)
set_option maxRecDepth 20000 in
theorem gX1_becomeProduct_X1_trim : GoodIn wsX1_becomeProduct (wsV RX1 53 RX1 yX1_trim wsX1_trim) := goodIn_app (goodIn_of _ (by decide +kernel)) ggX1_becomeProduct_X1_trim
theorem dX1_becomeProduct_0 : decode cX1_becomeProduct 0 = .ok (.aload_n 0, 1) := by decide +kernel
theorem dX1_becomeProduct_1 : decode cX1_becomeProduct 1 = .ok (.invokevirtual 56, 3) := by decide +kernel
theorem dX1_becomeProduct_4 : decode cX1_becomeProduct 4 = .ok (.iconst 0, 1) := by decide +kernel
theorem dX1_becomeProduct_5 : decode cX1_becomeProduct 5 = .ok (.istore_n 3, 1) := by decide +kernel
theorem dX1_becomeProduct_6 : decode cX1_becomeProduct 6 = .ok (.iload_n 3, 1) := by decide +kernel
theorem dX1_becomeProduct_7 : decode cX1_becomeProduct 7 = .ok (.aload_n 1, 1) := by decide +kernel
theorem dX1_becomeProduct_8 : decode cX1_becomeProduct 8 = .ok (.getfield 15, 3) := by decide +kernel
theorem dX1_becomeProduct_11 : decode cX1_becomeProduct 11 = .ok (.if_icmp .gt 84, 3) := by decide +kernel
theorem dX1_becomeProduct_14 : decode cX1_becomeProduct 14 = .ok (.iconst 0, 1) := by decide +kernel
theorem dX1_becomeProduct_15 : decode cX1_becomeProduct 15 = .ok (.istore 4, 2) := by decide +kernel
theorem dX1_becomeProduct_17 : decode cX1_becomeProduct 17 = .ok (.iload 4, 2) := by decide +kernel
theorem dX1_becomeProduct_19 : decode cX1_becomeProduct 19 = .ok (.aload_n 2, 1) := by decide +kernel
theorem dX1_becomeProduct_20 : decode cX1_becomeProduct 20 = .ok (.getfield 15, 3) := by decide +kernel
theorem dX1_becomeProduct_23 : decode cX1_becomeProduct 23 = .ok (.if_icmp .gt 66, 3) := by decide +kernel
theorem dX1_becomeProduct_26 : decode cX1_becomeProduct 26 = .ok (.aload_n 1, 1) := by decide +kernel
theorem dX1_becomeProduct_27 : decode cX1_becomeProduct 27 = .ok (.iload_n 3, 1) := by decide +kernel
theorem dX1_becomeProduct_28 : decode cX1_becomeProduct 28 = .ok (.invokevirtual 25, 3) := by decide +kernel
theorem dX1_becomeProduct_31 : decode cX1_becomeProduct 31 = .ok (.aload_n 2, 1) := by decide +kernel
theorem dX1_becomeProduct_32 : decode cX1_becomeProduct 32 = .ok (.iload 4, 2) := by decide +kernel
theorem dX1_becomeProduct_34 : decode cX1_becomeProduct 34 = .ok (.invokevirtual 25, 3) := by decide +kernel
theorem dX1_becomeProduct_37 : decode cX1_becomeProduct 37 = .ok (.lmul, 1) := by decide +kernel
theorem dX1_becomeProduct_38 : decode cX1_becomeProduct 38 = .ok (.lstore 5, 2) := by decide +kernel
theorem dX1_becomeProduct_40 : decode cX1_becomeProduct 40 = .ok (.aload_n 0, 1) := by decide +kernel
theorem dX1_becomeProduct_41 : decode cX1_becomeProduct 41 = .ok (.iload_n 3, 1) := by decide +kernel
theorem dX1_becomeProduct_42 : decode cX1_becomeProduct 42 = .ok (.iload 4, 2) := by decide +kernel
theorem dX1_becomeProduct_44 : decode cX1_becomeProduct 44 = .ok (.iadd, 1) := by decide +kernel
theorem dX1_becomeProduct_45 : decode cX1_becomeProduct 45 = .ok (.aload_n 0, 1) := by decide +kernel
theorem dX1_becomeProduct_46 : decode cX1_becomeProduct 46 = .ok (.iload_n 3, 1) := by decide +kernel
theorem dX1_becomeProduct_47 : decode cX1_becomeProduct 47 = .ok (.iload 4, 2) := by decide +kernel
theorem dX1_becomeProduct_49 : decode cX1_becomeProduct 49 = .ok (.iadd, 1) := by decide +kernel
theorem dX1_becomeProduct_50 : decode cX1_becomeProduct 50 = .ok (.invokevirtual 25, 3) := by decide +kernel
theorem dX1_becomeProduct_53 : decode cX1_becomeProduct 53 = .ok (.lload 5, 2) := by decide +kernel
theorem dX1_becomeProduct_55 : decode cX1_becomeProduct 55 = .ok (.ladd, 1) := by decide +kernel
theorem dX1_becomeProduct_56 : decode cX1_becomeProduct 56 = .ok (.invokevirtual 59, 3) := by decide +kernel
theorem dX1_becomeProduct_59 : decode cX1_becomeProduct 59 = .ok (.iload_n 3, 1) := by decide +kernel
theorem dX1_becomeProduct_60 : decode cX1_becomeProduct 60 = .ok (.iload 4, 2) := by decide +kernel
theorem dX1_becomeProduct_62 : decode cX1_becomeProduct 62 = .ok (.isub, 1) := by decide +kernel
theorem dX1_becomeProduct_63 : decode cX1_becomeProduct 63 = .ok (.invokestatic 63, 3) := by decide +kernel
theorem dX1_becomeProduct_66 : decode cX1_becomeProduct 66 = .ok (.istore 7, 2) := by decide +kernel
theorem dX1_becomeProduct_68 : decode cX1_becomeProduct 68 = .ok (.aload_n 0, 1) := by decide +kernel
theorem dX1_becomeProduct_69 : decode cX1_becomeProduct 69 = .ok (.iload 7, 2) := by decide +kernel
theorem dX1_becomeProduct_71 : decode cX1_becomeProduct 71 = .ok (.aload_n 0, 1) := by decide +kernel
theorem dX1_becomeProduct_72 : decode cX1_becomeProduct 72 = .ok (.iload 7, 2) := by decide +kernel
theorem dX1_becomeProduct_74 : decode cX1_becomeProduct 74 = .ok (.invokevirtual 25, 3) := by decide +kernel
theorem dX1_becomeProduct_77 : decode cX1_becomeProduct 77 = .ok (.lload 5, 2) := by decide +kernel
theorem dX1_becomeProduct_79 : decode cX1_becomeProduct 79 = .ok (.ladd, 1) := by decide +kernel
theorem dX1_becomeProduct_80 : decode cX1_becomeProduct 80 = .ok (.invokevirtual 59, 3) := by decide +kernel
theorem dX1_becomeProduct_83 : decode cX1_becomeProduct 83 = .ok (.iinc 4 1, 3) := by decide +kernel
theorem dX1_becomeProduct_86 : decode cX1_becomeProduct 86 = .ok (.goto (-69), 3) := by decide +kernel
theorem dX1_becomeProduct_89 : decode cX1_becomeProduct 89 = .ok (.iinc 3 1, 3) := by decide +kernel
theorem dX1_becomeProduct_92 : decode cX1_becomeProduct 92 = .ok (.goto (-86), 3) := by decide +kernel
theorem dX1_becomeProduct_95 : decode cX1_becomeProduct 95 = .ok (.iconst 0, 1) := by decide +kernel
theorem dX1_becomeProduct_96 : decode cX1_becomeProduct 96 = .ok (.istore_n 3, 1) := by decide +kernel
theorem dX1_becomeProduct_97 : decode cX1_becomeProduct 97 = .ok (.iload_n 3, 1) := by decide +kernel
theorem dX1_becomeProduct_98 : decode cX1_becomeProduct 98 = .ok (.aload_n 0, 1) := by decide +kernel
theorem dX1_becomeProduct_99 : decode cX1_becomeProduct 99 = .ok (.getfield 9, 3) := by decide +kernel
theorem dX1_becomeProduct_102 : decode cX1_becomeProduct 102 = .ok (.arraylength, 1) := by decide +kernel
theorem dX1_becomeProduct_103 : decode cX1_becomeProduct 103 = .ok (.if_icmp .ge 27, 3) := by decide +kernel
theorem dX1_becomeProduct_106 : decode cX1_becomeProduct 106 = .ok (.aload_n 0, 1) := by decide +kernel
theorem dX1_becomeProduct_107 : decode cX1_becomeProduct 107 = .ok (.getfield 9, 3) := by decide +kernel
theorem dX1_becomeProduct_110 : decode cX1_becomeProduct 110 = .ok (.iload_n 3, 1) := by decide +kernel
theorem dX1_becomeProduct_111 : decode cX1_becomeProduct 111 = .ok (.aload_n 0, 1) := by decide +kernel
theorem dX1_becomeProduct_112 : decode cX1_becomeProduct 112 = .ok (.getfield 9, 3) := by decide +kernel
