theorem dX5_bucket_0 : decode cX5_bucket 0 = .ok (.iload_n 1, 1) := by decide +kernel
theorem dX5_bucket_1 : decode cX5_bucket 1 = .ok (.invokestatic 124, 3) := by decide +kernel
theorem dX5_bucket_4 : decode cX5_bucket 4 = .ok (.ifCond .eq 29, 3) := by decide +kernel
theorem dX5_bucket_7 : decode cX5_bucket 7 = .ok (.iload_n 2, 1) := by decide +kernel
theorem dX5_bucket_8 : decode cX5_bucket 8 = .ok (.iconst 0, 1) := by decide +kernel
theorem dX5_bucket_9 : decode cX5_bucket 9 = .ok (.aload_n 0, 1) := by decide +kernel
theorem dX5_bucket_10 : decode cX5_bucket 10 = .ok (.iload_n 1, 1) := by decide +kernel
theorem dX5_bucket_11 : decode cX5_bucket 11 = .ok (.invokevirtual 59, 3) := by decide +kernel
theorem dX5_bucket_14 : decode cX5_bucket 14 = .ok (.iconst 1, 1) := by decide +kernel
theorem dX5_bucket_15 : decode cX5_bucket 15 = .ok (.isub, 1) := by decide +kernel
theorem dX5_bucket_16 : decode cX5_bucket 16 = .ok (.invokestatic 43, 3) := by decide +kernel
theorem dX5_bucket_19 : decode cX5_bucket 19 = .ok (.ifCond .eq 14, 3) := by decide +kernel
theorem dX5_bucket_22 : decode cX5_bucket 22 = .ok (.aload_n 0, 1) := by decide +kernel
theorem dX5_bucket_23 : decode cX5_bucket 23 = .ok (.iload_n 1, 1) := by decide +kernel
theorem dX5_bucket_24 : decode cX5_bucket 24 = .ok (.iconst 2, 1) := by decide +kernel
theorem dX5_bucket_25 : decode cX5_bucket 25 = .ok (.iload_n 2, 1) := by decide +kernel
theorem dX5_bucket_26 : decode cX5_bucket 26 = .ok (.iadd, 1) := by decide +kernel
theorem dX5_bucket_27 : decode cX5_bucket 27 = .ok (.invokevirtual 48, 3) := by decide +kernel
theorem dX5_bucket_30 : decode cX5_bucket 30 = .ok (.goto 4, 3) := by decide +kernel
theorem dX5_bucket_33 : decode cX5_bucket 33 = .ok (.iconst (-1), 1) := by decide +kernel
theorem dX5_bucket_34 : decode cX5_bucket 34 = .ok (.ireturn, 1) := by decide +kernel
set_option maxRecDepth 20000 in
theorem ggX5_greatestRank_X5_bucketsOf : GoodIn wsX5_greatestRank wsX5_bucketsOf := goodIn_r _ [5, 6, 7, 8, 4, 9, 10, 11, 12, 13, 14, 15, 16, 17, 18, 19, 20, 21, 22, 23] (by decide +kernel) (by decide +kernel)
set_option maxRecDepth 20000 in
theorem gX5_greatestRank_X5_bucketsOf : GoodIn wsX5_greatestRank (wsV RX5 59 RX5 yX5_bucketsOf wsX5_bucketsOf) := goodIn_app (goodIn_of _ (by decide +kernel)) ggX5_greatestRank_X5_bucketsOf
set_option maxRecDepth 20000 in
theorem ggX5_greatestRank_X5_part : GoodIn wsX5_greatestRank wsX5_part := goodIn_r _ [9, 10, 11, 12, 13, 14, 15, 16, 17, 18, 19, 20, 21, 22, 23] (by decide +kernel) (by decide +kernel)
set_option maxRecDepth 20000 in
theorem gX5_greatestRank_X5_part : GoodIn wsX5_greatestRank (wsV RX5 48 RX5 yX5_part wsX5_part) := goodIn_app (goodIn_of _ (by decide +kernel)) ggX5_greatestRank_X5_part
theorem dX5_greatestRank_0 : decode cX5_greatestRank 0 = .ok (.iconst 0, 1) := by decide +kernel
theorem dX5_greatestRank_1 : decode cX5_greatestRank 1 = .ok (.istore_n 2, 1) := by decide +kernel
theorem dX5_greatestRank_2 : decode cX5_greatestRank 2 = .ok (.iconst 0, 1) := by decide +kernel
theorem dX5_greatestRank_3 : decode cX5_greatestRank 3 = .ok (.istore_n 3, 1) := by decide +kernel
theorem dX5_greatestRank_4 : decode cX5_greatestRank 4 = .ok (.iload_n 3, 1) := by decide +kernel
theorem dX5_greatestRank_5 : decode cX5_greatestRank 5 = .ok (.aload_n 0, 1) := by decide +kernel
theorem dX5_greatestRank_6 : decode cX5_greatestRank 6 = .ok (.iload_n 1, 1) := by decide +kernel
theorem dX5_greatestRank_7 : decode cX5_greatestRank 7 = .ok (.invokevirtual 59, 3) := by decide +kernel
theorem dX5_greatestRank_10 : decode cX5_greatestRank 10 = .ok (.if_icmp .ge 34, 3) := by decide +kernel
theorem dX5_greatestRank_13 : decode cX5_greatestRank 13 = .ok (.aload_n 0, 1) := by decide +kernel
theorem dX5_greatestRank_14 : decode cX5_greatestRank 14 = .ok (.iload_n 1, 1) := by decide +kernel
theorem dX5_greatestRank_15 : decode cX5_greatestRank 15 = .ok (.iconst 2, 1) := by decide +kernel
theorem dX5_greatestRank_16 : decode cX5_greatestRank 16 = .ok (.iload_n 3, 1) := by decide +kernel
theorem dX5_greatestRank_17 : decode cX5_greatestRank 17 = .ok (.iadd, 1) := by decide +kernel
theorem dX5_greatestRank_18 : decode cX5_greatestRank 18 = .ok (.invokevirtual 48, 3) := by decide +kernel
theorem dX5_greatestRank_21 : decode cX5_greatestRank 21 = .ok (.iload_n 2, 1) := by decide +kernel
theorem dX5_greatestRank_22 : decode cX5_greatestRank 22 = .ok (.if_icmp .le 14, 3) := by decide +kernel
theorem dX5_greatestRank_25 : decode cX5_greatestRank 25 = .ok (.aload_n 0, 1) := by decide +kernel
theorem dX5_greatestRank_26 : decode cX5_greatestRank 26 = .ok (.iload_n 1, 1) := by decide +kernel
theorem dX5_greatestRank_27 : decode cX5_greatestRank 27 = .ok (.iconst 2, 1) := by decide +kernel
theorem dX5_greatestRank_28 : decode cX5_greatestRank 28 = .ok (.iload_n 3, 1) := by decide +kernel
theorem dX5_greatestRank_29 : decode cX5_greatestRank 29 = .ok (.iadd, 1) := by decide +kernel
theorem dX5_greatestRank_30 : decode cX5_greatestRank 30 = .ok (.invokevirtual 48, 3) := by decide +kernel
theorem dX5_greatestRank_33 : decode cX5_greatestRank 33 = .ok (.goto 4, 3) := by decide +kernel
theorem dX5_greatestRank_36 : decode cX5_greatestRank 36 = .ok (.iload_n 2, 1) := by decide +kernel
theorem dX5_greatestRank_37 : decode cX5_greatestRank 37 = .ok (.istore_n 2, 1) := by decide +kernel
theorem dX5_greatestRank_38 : decode cX5_greatestRank 38 = .ok (.iinc 3 1, 3) := by decide +kernel
theorem dX5_greatestRank_41 : decode cX5_greatestRank 41 = .ok (.goto (-37), 3) := by decide +kernel
theorem dX5_greatestRank_44 : decode cX5_greatestRank 44 = .ok (.iload_n 2, 1) := by decide +kernel
theorem dX5_greatestRank_45 : decode cX5_greatestRank 45 = .ok (.ireturn, 1) := by decide +kernel
set_option maxRecDepth 20000 in
theorem ggX5_ofSketch_X5_isSketch : GoodIn wsX5_ofSketch wsX5_isSketch := goodIn_r _ [4, 5, 6, 3, 7] (by decide +kernel) (by decide +kernel)
set_option maxRecDepth 20000 in
theorem gX5_ofSketch_X5_isSketch : GoodIn wsX5_ofSketch (va_wsS RX5 124 yX5_isSketch wsX5_isSketch) := goodIn_app (goodIn_of _ (by decide +kernel)) ggX5_ofSketch_X5_isSketch
set_option maxRecDepth 20000 in
theorem ggX5_ofSketch_X5_bucketsOf : GoodIn wsX5_ofSketch wsX5_bucketsOf := goodIn_r _ [11, 12, 13, 14, 3, 15, 16, 54, 55, 56, 57, 58, 59, 60, 61, 62, 63, 64, 65, 66] (by decide +kernel) (by decide +kernel)
set_option maxRecDepth 20000 in
theorem gX5_ofSketch_X5_bucketsOf : GoodIn wsX5_ofSketch (wsV RX5 59 RX5 yX5_bucketsOf wsX5_bucketsOf) := goodIn_app (goodIn_of _ (by decide +kernel)) ggX5_ofSketch_X5_bucketsOf
set_option maxRecDepth 20000 in
theorem ggX5_ofSketch_X5_takeRanks : GoodIn wsX5_ofSketch wsX5_takeRanks := goodIn_r _ [20, 21, 12, 13, 14, 3, 15, 16, 54, 55, 56, 57, 58, 59, 60, 61, 62, 63, 64, 65, 66] (by decide +kernel) (by decide +kernel)
set_option maxRecDepth 20000 in
theorem gX5_ofSketch_X5_takeRanks : GoodIn wsX5_ofSketch (wsV RX5 89 RX5 yX5_takeRanks wsX5_takeRanks) := goodIn_app (goodIn_of _ (by decide +kernel)) ggX5_ofSketch_X5_takeRanks
set_option maxRecDepth 20000 in
theorem ggX5_ofSketch_X5_part : GoodIn wsX5_ofSketch wsX5_part := goodIn_r _ [15, 16, 54, 55, 56, 57, 58, 59, 60, 61, 62, 63, 64, 65, 66] (by decide +kernel) (by decide +kernel)
set_option maxRecDepth 20000 in
theorem gX5_ofSketch_X5_part : GoodIn wsX5_ofSketch (wsV RX5 48 RX5 yX5_part wsX5_part) := goodIn_app (goodIn_of _ (by decide +kernel)) ggX5_ofSketch_X5_part
set_option maxRecDepth 20000 in
theorem ggX5_ofSketch_X5_emptyBy : GoodIn wsX5_ofSketch wsX5_emptyBy := goodIn_r _ [25, 21, 54, 55, 56, 57, 58, 59, 60, 61, 62, 63, 64, 65, 66] (by decide +kernel) (by decide +kernel)
set_option maxRecDepth 20000 in
theorem gX5_ofSketch_X5_emptyBy : GoodIn wsX5_ofSketch (wsV RX5 86 RX5 yX5_emptyBy wsX5_emptyBy) := goodIn_app (goodIn_of _ (by decide +kernel)) ggX5_ofSketch_X5_emptyBy
set_option maxRecDepth 20000 in
theorem ggX5_ofSketch_X5_greatestRank : GoodIn wsX5_ofSketch wsX5_greatestRank := goodIn_r _ [29, 8, 9, 10, 3, 11, 12, 13, 14, 15, 16, 54, 55, 56, 57, 58, 59, 60, 61, 62, 63, 64, 65, 66] (by decide +kernel) (by decide +kernel)
set_option maxRecDepth 20000 in
theorem gX5_ofSketch_X5_greatestRank : GoodIn wsX5_ofSketch (wsV RX5 153 RX5 yX5_greatestRank wsX5_greatestRank) := goodIn_app (goodIn_of _ (by decide +kernel)) ggX5_ofSketch_X5_greatestRank
set_option maxRecDepth 20000 in
theorem ggX5_ofSketch_X5_sumBy : GoodIn wsX5_ofSketch wsX5_sumBy := goodIn_r _ [33, 34, 21, 54, 55, 56, 57, 58, 59, 60, 61, 62, 63, 64, 65, 66] (by decide +kernel) (by decide +kernel)
set_option maxRecDepth 20000 in
theorem gX5_ofSketch_X5_sumBy : GoodIn wsX5_ofSketch (wsV RX5 80 RX5 yX5_sumBy wsX5_sumBy) := goodIn_app (goodIn_of _ (by decide +kernel)) ggX5_ofSketch_X5_sumBy
set_option maxRecDepth 20000 in
theorem ggX5_ofSketch_X5_rawBy : GoodIn wsX5_ofSketch wsX5_rawBy := goodIn_r _ [38, 39, 40, 41, 30, 31, 32, 3, 33, 34, 21, 54, 55, 56, 57, 58, 59, 60, 61, 62, 63, 64, 65, 66] (by decide +kernel) (by decide +kernel)
set_option maxRecDepth 20000 in
theorem gX5_ofSketch_X5_rawBy : GoodIn wsX5_ofSketch (wsV RX5 83 RX5 yX5_rawBy wsX5_rawBy) := goodIn_app (goodIn_of _ (by decide +kernel)) ggX5_ofSketch_X5_rawBy
set_option maxRecDepth 20000 in
theorem ggX5_ofSketch_X5_estimateBy : GoodIn wsX5_ofSketch wsX5_estimateBy := goodIn_r _ [45, 35, 36, 37, 3, 38, 39, 40, 41, 30, 31, 32, 33, 34, 21, 22, 23, 24, 25, 54, 55, 56, 57, 58, 59, 60, 61, 62, 63, 64, 65, 66] (by decide +kernel) (by decide +kernel)
set_option maxRecDepth 20000 in
theorem gX5_ofSketch_X5_estimateBy : GoodIn wsX5_ofSketch (wsV RX5 93 RX5 yX5_estimateBy wsX5_estimateBy) := goodIn_app (goodIn_of _ (by decide +kernel)) ggX5_ofSketch_X5_estimateBy
set_option maxRecDepth 20000 in
theorem ggX5_ofSketch_X5_errorOf : GoodIn wsX5_ofSketch wsX5_errorOf := goodIn_r _ [49, 8, 9, 10, 3, 11, 12, 13, 14, 15, 16, 50, 51, 52, 53, 17, 18, 19, 20, 21, 42, 43, 44, 45, 35, 36, 37, 38, 39, 40, 41, 30, 31, 32, 33, 34, 22, 23, 24, 25, 54, 55, 56, 57, 58, 59, 60, 61, 62, 63, 64, 65, 66] (by decide +kernel) (by decide +kernel)
set_option maxRecDepth 20000 in
theorem gX5_ofSketch_X5_errorOf : GoodIn wsX5_ofSketch (wsV RX5 156 RX5 yX5_errorOf wsX5_errorOf) := goodIn_app (goodIn_of _ (by decide +kernel)) ggX5_ofSketch_X5_errorOf
theorem dX5_ofSketch_0 : decode cX5_ofSketch 0 = .ok (.iload_n 1, 1) := by decide +kernel
theorem dX5_ofSketch_1 : decode cX5_ofSketch 1 = .ok (.invokestatic 124, 3) := by decide +kernel
theorem dX5_ofSketch_4 : decode cX5_ofSketch 4 = .ok (.ifCond .ne 5, 3) := by decide +kernel
theorem dX5_ofSketch_7 : decode cX5_ofSketch 7 = .ok (.iconst (-1), 1) := by decide +kernel
theorem dX5_ofSketch_8 : decode cX5_ofSketch 8 = .ok (.ireturn, 1) := by decide +kernel
theorem dX5_ofSketch_9 : decode cX5_ofSketch 9 = .ok (.aload_n 0, 1) := by decide +kernel
theorem dX5_ofSketch_10 : decode cX5_ofSketch 10 = .ok (.iload_n 1, 1) := by decide +kernel
theorem dX5_ofSketch_11 : decode cX5_ofSketch 11 = .ok (.invokevirtual 59, 3) := by decide +kernel
theorem dX5_ofSketch_14 : decode cX5_ofSketch 14 = .ok (.istore_n 3, 1) := by decide +kernel
theorem dX5_ofSketch_15 : decode cX5_ofSketch 15 = .ok (.aload_n 0, 1) := by decide +kernel
theorem dX5_ofSketch_16 : decode cX5_ofSketch 16 = .ok (.iload_n 1, 1) := by decide +kernel
theorem dX5_ofSketch_17 : decode cX5_ofSketch 17 = .ok (.invokevirtual 89, 3) := by decide +kernel
theorem dX5_ofSketch_20 : decode cX5_ofSketch 20 = .ok (.iload_n 2, 1) := by decide +kernel
theorem dX5_ofSketch_21 : decode cX5_ofSketch 21 = .ok (.tableswitch 103 0 8 #[51, 58, 60, 66, 72, 78, 84, 90, 96], 51) := by decide +kernel
theorem dX5_ofSketch_72 : decode cX5_ofSketch 72 = .ok (.aload_n 0, 1) := by decide +kernel
theorem dX5_ofSketch_73 : decode cX5_ofSketch 73 = .ok (.iload_n 1, 1) := by decide +kernel
theorem dX5_ofSketch_74 : decode cX5_ofSketch 74 = .ok (.iconst 0, 1) := by decide +kernel
theorem dX5_ofSketch_75 : decode cX5_ofSketch 75 = .ok (.invokevirtual 48, 3) := by decide +kernel
theorem dX5_ofSketch_78 : decode cX5_ofSketch 78 = .ok (.ireturn, 1) := by decide +kernel
theorem dX5_ofSketch_79 : decode cX5_ofSketch 79 = .ok (.iload_n 3, 1) := by decide +kernel
theorem dX5_ofSketch_80 : decode cX5_ofSketch 80 = .ok (.ireturn, 1) := by decide +kernel
theorem dX5_ofSketch_81 : decode cX5_ofSketch 81 = .ok (.aload_n 0, 1) := by decide +kernel
theorem dX5_ofSketch_82 : decode cX5_ofSketch 82 = .ok (.iload_n 3, 1) := by decide +kernel
theorem dX5_ofSketch_83 : decode cX5_ofSketch 83 = .ok (.invokevirtual 86, 3) := by decide +kernel
theorem dX5_ofSketch_86 : decode cX5_ofSketch 86 = .ok (.ireturn, 1) := by decide +kernel
theorem dX5_ofSketch_87 : decode cX5_ofSketch 87 = .ok (.aload_n 0, 1) := by decide +kernel
theorem dX5_ofSketch_88 : decode cX5_ofSketch 88 = .ok (.iload_n 1, 1) := by decide +kernel
theorem dX5_ofSketch_89 : decode cX5_ofSketch 89 = .ok (.invokevirtual 153, 3) := by decide +kernel
theorem dX5_ofSketch_92 : decode cX5_ofSketch 92 = .ok (.ireturn, 1) := by decide +kernel
theorem dX5_ofSketch_93 : decode cX5_ofSketch 93 = .ok (.aload_n 0, 1) := by decide +kernel
theorem dX5_ofSketch_94 : decode cX5_ofSketch 94 = .ok (.iload_n 3, 1) := by decide +kernel
theorem dX5_ofSketch_95 : decode cX5_ofSketch 95 = .ok (.invokevirtual 80, 3) := by decide +kernel
theorem dX5_ofSketch_98 : decode cX5_ofSketch 98 = .ok (.ireturn, 1) := by decide +kernel
theorem dX5_ofSketch_99 : decode cX5_ofSketch 99 = .ok (.aload_n 0, 1) := by decide +kernel
theorem dX5_ofSketch_100 : decode cX5_ofSketch 100 = .ok (.iload_n 3, 1) := by decide +kernel
theorem dX5_ofSketch_101 : decode cX5_ofSketch 101 = .ok (.invokevirtual 83, 3) := by decide +kernel
theorem dX5_ofSketch_104 : decode cX5_ofSketch 104 = .ok (.ireturn, 1) := by decide +kernel
theorem dX5_ofSketch_105 : decode cX5_ofSketch 105 = .ok (.aload_n 0, 1) := by decide +kernel
theorem dX5_ofSketch_106 : decode cX5_ofSketch 106 = .ok (.iload_n 3, 1) := by decide +kernel
theorem dX5_ofSketch_107 : decode cX5_ofSketch 107 = .ok (.invokevirtual 93, 3) := by decide +kernel
theorem dX5_ofSketch_110 : decode cX5_ofSketch 110 = .ok (.ireturn, 1) := by decide +kernel
theorem dX5_ofSketch_111 : decode cX5_ofSketch 111 = .ok (.aload_n 0, 1) := by decide +kernel
theorem dX5_ofSketch_112 : decode cX5_ofSketch 112 = .ok (.iload_n 1, 1) := by decide +kernel
theorem dX5_ofSketch_113 : decode cX5_ofSketch 113 = .ok (.invokevirtual 156, 3) := by decide +kernel
theorem dX5_ofSketch_116 : decode cX5_ofSketch 116 = .ok (.ireturn, 1) := by decide +kernel
theorem dX5_ofSketch_117 : decode cX5_ofSketch 117 = .ok (.aload_n 0, 1) := by decide +kernel
theorem dX5_ofSketch_118 : decode cX5_ofSketch 118 = .ok (.iload_n 1, 1) := by decide +kernel
theorem dX5_ofSketch_119 : decode cX5_ofSketch 119 = .ok (.iconst 1, 1) := by decide +kernel
theorem dX5_ofSketch_120 : decode cX5_ofSketch 120 = .ok (.invokevirtual 48, 3) := by decide +kernel
theorem dX5_ofSketch_123 : decode cX5_ofSketch 123 = .ok (.ireturn, 1) := by decide +kernel
theorem dX5_ofSketch_124 : decode cX5_ofSketch 124 = .ok (.bipush (-2), 2) := by decide +kernel
theorem dX5_ofSketch_126 : decode cX5_ofSketch 126 = .ok (.ireturn, 1) := by decide +kernel
set_option maxRecDepth 20000 in
theorem ggX5_withRank_X5_isSketch : GoodIn wsX5_withRank wsX5_isSketch := goodIn_r _ [6, 7, 8, 5, 9] (by decide +kernel) (by decide +kernel)
set_option maxRecDepth 20000 in
theorem gX5_withRank_X5_isSketch : GoodIn wsX5_withRank (va_wsS RX5 124 yX5_isSketch wsX5_isSketch) := goodIn_app (goodIn_of _ (by decide +kernel)) ggX5_withRank_X5_isSketch
set_option maxRecDepth 20000 in
theorem ggX5_withRank_X5_within : GoodIn wsX5_withRank wsX5_within := goodIn_r _ [9] (by decide +kernel) (by decide +kernel)
set_option maxRecDepth 20000 in
theorem gX5_withRank_X5_within : GoodIn wsX5_withRank (va_wsS RX5 43 yX5_within wsX5_within) := goodIn_app (goodIn_of _ (by decide +kernel)) ggX5_withRank_X5_within
set_option maxRecDepth 20000 in
theorem ggX5_withRank_X5_bucketsOf : GoodIn wsX5_withRank wsX5_bucketsOf := goodIn_r _ [13, 14, 15, 16, 5, 17, 18, 19, 20, 21, 22, 23, 24, 25, 26, 27, 28, 29, 30, 31] (by decide +kernel) (by decide +kernel)
set_option maxRecDepth 20000 in
theorem gX5_withRank_X5_bucketsOf : GoodIn wsX5_withRank (wsV RX5 59 RX5 yX5_bucketsOf wsX5_bucketsOf) := goodIn_app (goodIn_of _ (by decide +kernel)) ggX5_withRank_X5_bucketsOf
set_option maxRecDepth 20000 in
theorem ggX5_withRank_X5_part : GoodIn wsX5_withRank wsX5_part := goodIn_r _ [17, 18, 19, 20, 21, 22, 23, 24, 25, 26, 27, 28, 29, 30, 31] (by decide +kernel) (by decide +kernel)
set_option maxRecDepth 20000 in
theorem gX5_withRank_X5_part : GoodIn wsX5_withRank (wsV RX5 48 RX5 yX5_part wsX5_part) := goodIn_app (goodIn_of _ (by decide +kernel)) ggX5_withRank_X5_part
theorem dX5_withRank_0 : decode cX5_withRank 0 = .ok (.iload_n 1, 1) := by decide +kernel
theorem dX5_withRank_1 : decode cX5_withRank 1 = .ok (.invokestatic 124, 3) := by decide +kernel
theorem dX5_withRank_4 : decode cX5_withRank 4 = .ok (.ifCond .ne 7, 3) := by decide +kernel
theorem dX5_withRank_7 : decode cX5_withRank 7 = .ok (.ldc2_w 159, 3) := by decide +kernel
theorem dX5_withRank_10 : decode cX5_withRank 10 = .ok (.lreturn, 1) := by decide +kernel
theorem dX5_withRank_11 : decode cX5_withRank 11 = .ok (.iload_n 2, 1) := by decide +kernel
theorem dX5_withRank_12 : decode cX5_withRank 12 = .ok (.iconst 0, 1) := by decide +kernel
theorem dX5_withRank_13 : decode cX5_withRank 13 = .ok (.bipush 15, 2) := by decide +kernel
theorem dX5_withRank_15 : decode cX5_withRank 15 = .ok (.invokestatic 43, 3) := by decide +kernel
theorem dX5_withRank_18 : decode cX5_withRank 18 = .ok (.ifCond .ne 7, 3) := by decide +kernel
theorem dX5_withRank_21 : decode cX5_withRank 21 = .ok (.ldc2_w 161, 3) := by decide +kernel
theorem dX5_withRank_24 : decode cX5_withRank 24 = .ok (.lreturn, 1) := by decide +kernel
theorem dX5_withRank_25 : decode cX5_withRank 25 = .ok (.lconst 0, 1) := by decide +kernel
theorem dX5_withRank_26 : decode cX5_withRank 26 = .ok (.lstore_n 3, 1) := by decide +kernel
theorem dX5_withRank_27 : decode cX5_withRank 27 = .ok (.iconst 0, 1) := by decide +kernel
theorem dX5_withRank_28 : decode cX5_withRank 28 = .ok (.istore 5, 2) := by decide +kernel
theorem dX5_withRank_30 : decode cX5_withRank 30 = .ok (.iload 5, 2) := by decide +kernel
theorem dX5_withRank_32 : decode cX5_withRank 32 = .ok (.aload_n 0, 1) := by decide +kernel
theorem dX5_withRank_33 : decode cX5_withRank 33 = .ok (.iload_n 1, 1) := by decide +kernel
theorem dX5_withRank_34 : decode cX5_withRank 34 = .ok (.invokevirtual 59, 3) := by decide +kernel
theorem dX5_withRank_37 : decode cX5_withRank 37 = .ok (.if_icmp .ge 33, 3) := by decide +kernel
theorem dX5_withRank_40 : decode cX5_withRank 40 = .ok (.lload_n 3, 1) := by decide +kernel
theorem dX5_withRank_41 : decode cX5_withRank 41 = .ok (.aload_n 0, 1) := by decide +kernel
theorem dX5_withRank_42 : decode cX5_withRank 42 = .ok (.iload_n 1, 1) := by decide +kernel
theorem dX5_withRank_43 : decode cX5_withRank 43 = .ok (.iconst 2, 1) := by decide +kernel
theorem dX5_withRank_44 : decode cX5_withRank 44 = .ok (.iload 5, 2) := by decide +kernel
theorem dX5_withRank_46 : decode cX5_withRank 46 = .ok (.iadd, 1) := by decide +kernel
theorem dX5_withRank_47 : decode cX5_withRank 47 = .ok (.invokevirtual 48, 3) := by decide +kernel
theorem dX5_withRank_50 : decode cX5_withRank 50 = .ok (.iload_n 2, 1) := by decide +kernel
theorem dX5_withRank_51 : decode cX5_withRank 51 = .ok (.if_icmp .ne 10, 3) := by decide +kernel
theorem dX5_withRank_54 : decode cX5_withRank 54 = .ok (.lconst 1, 1) := by decide +kernel
theorem dX5_withRank_55 : decode cX5_withRank 55 = .ok (.iload 5, 2) := by decide +kernel
theorem dX5_withRank_57 : decode cX5_withRank 57 = .ok (.lshl, 1) := by decide +kernel
theorem dX5_withRank_58 : decode cX5_withRank 58 = .ok (.goto 4, 3) := by decide +kernel
theorem dX5_withRank_61 : decode cX5_withRank 61 = .ok (.lconst 0, 1) := by decide +kernel
theorem dX5_withRank_62 : decode cX5_withRank 62 = .ok (.lor, 1) := by decide +kernel
theorem dX5_withRank_63 : decode cX5_withRank 63 = .ok (.lstore_n 3, 1) := by decide +kernel
theorem dX5_withRank_64 : decode cX5_withRank 64 = .ok (.iinc 5 1, 3) := by decide +kernel
theorem dX5_withRank_67 : decode cX5_withRank 67 = .ok (.goto (-37), 3) := by decide +kernel
theorem dX5_withRank_70 : decode cX5_withRank 70 = .ok (.lload_n 3, 1) := by decide +kernel
theorem dX5_withRank_71 : decode cX5_withRank 71 = .ok (.lreturn, 1) := by decide +kernel
set_option maxRecDepth 20000 in
theorem ggX5_listed_X5_isSketch : GoodIn wsX5_listed wsX5_isSketch := goodIn_r _ [4, 5, 6, 3, 7] (by decide +kernel) (by decide +kernel)
set_option maxRecDepth 20000 in
theorem gX5_listed_X5_isSketch : GoodIn wsX5_listed (va_wsS RX5 124 yX5_isSketch wsX5_isSketch) := goodIn_app (goodIn_of _ (by decide +kernel)) ggX5_listed_X5_isSketch
set_option maxRecDepth 20000 in
theorem ggX5_listed_X5_part : GoodIn wsX5_listed wsX5_part := goodIn_r _ [11, 12, 13, 14, 15, 16, 17, 18, 19, 20, 21, 22, 23, 24, 25] (by decide +kernel) (by decide +kernel)
set_option maxRecDepth 20000 in
theorem gX5_listed_X5_part : GoodIn wsX5_listed (wsV RX5 48 RX5 yX5_part wsX5_part) := goodIn_app (goodIn_of _ (by decide +kernel)) ggX5_listed_X5_part
set_option maxRecDepth 20000 in
theorem ggX5_listed_X5_within : GoodIn wsX5_listed wsX5_within := goodIn_r _ [7] (by decide +kernel) (by decide +kernel)
set_option maxRecDepth 20000 in
theorem gX5_listed_X5_within : GoodIn wsX5_listed (va_wsS RX5 43 yX5_within wsX5_within) := goodIn_app (goodIn_of _ (by decide +kernel)) ggX5_listed_X5_within
theorem dX5_listed_0 : decode cX5_listed 0 = .ok (.iload_n 1, 1) := by decide +kernel
theorem dX5_listed_1 : decode cX5_listed 1 = .ok (.invokestatic 124, 3) := by decide +kernel
theorem dX5_listed_4 : decode cX5_listed 4 = .ok (.ifCond .eq 31, 3) := by decide +kernel
theorem dX5_listed_7 : decode cX5_listed 7 = .ok (.iload_n 2, 1) := by decide +kernel
theorem dX5_listed_8 : decode cX5_listed 8 = .ok (.iconst 0, 1) := by decide +kernel
theorem dX5_listed_9 : decode cX5_listed 9 = .ok (.aload_n 0, 1) := by decide +kernel
theorem dX5_listed_10 : decode cX5_listed 10 = .ok (.iload_n 1, 1) := by decide +kernel
theorem dX5_listed_11 : decode cX5_listed 11 = .ok (.iconst 1, 1) := by decide +kernel
theorem dX5_listed_12 : decode cX5_listed 12 = .ok (.invokevirtual 48, 3) := by decide +kernel
theorem dX5_listed_15 : decode cX5_listed 15 = .ok (.iconst 1, 1) := by decide +kernel
theorem dX5_listed_16 : decode cX5_listed 16 = .ok (.isub, 1) := by decide +kernel
theorem dX5_listed_17 : decode cX5_listed 17 = .ok (.invokestatic 43, 3) := by decide +kernel
theorem dX5_listed_20 : decode cX5_listed 20 = .ok (.ifCond .eq 15, 3) := by decide +kernel
theorem dX5_listed_23 : decode cX5_listed 23 = .ok (.aload_n 0, 1) := by decide +kernel
theorem dX5_listed_24 : decode cX5_listed 24 = .ok (.iload_n 1, 1) := by decide +kernel
theorem dX5_listed_25 : decode cX5_listed 25 = .ok (.bipush 66, 2) := by decide +kernel
theorem dX5_listed_27 : decode cX5_listed 27 = .ok (.iload_n 2, 1) := by decide +kernel
theorem dX5_listed_28 : decode cX5_listed 28 = .ok (.iadd, 1) := by decide +kernel
theorem dX5_listed_29 : decode cX5_listed 29 = .ok (.invokevirtual 48, 3) := by decide +kernel
theorem dX5_listed_32 : decode cX5_listed 32 = .ok (.goto 4, 3) := by decide +kernel
theorem dX5_listed_35 : decode cX5_listed 35 = .ok (.iconst (-1), 1) := by decide +kernel
theorem dX5_listed_36 : decode cX5_listed 36 = .ok (.ireturn, 1) := by decide +kernel
set_option maxRecDepth 20000 in
theorem ggX5_sketchesFilled_X5_filled : GoodIn wsX5_sketchesFilled wsX5_filled := goodIn_r _ [5, 6, 7, 8, 4, 9, 10, 11, 12, 13, 14, 15, 16, 17, 18, 19, 20, 21, 22, 23, 24, 25, 26, 27] (by decide +kernel) (by decide +kernel)
set_option maxRecDepth 20000 in
theorem gX5_sketchesFilled_X5_filled : GoodIn wsX5_sketchesFilled (wsV RX5 72 RX5 yX5_filled wsX5_filled) := goodIn_app (goodIn_of _ (by decide +kernel)) ggX5_sketchesFilled_X5_filled
theorem dX5_sketchesFilled_0 : decode cX5_sketchesFilled 0 = .ok (.iconst 0, 1) := by decide +kernel
theorem dX5_sketchesFilled_1 : decode cX5_sketchesFilled 1 = .ok (.istore_n 1, 1) := by decide +kernel
theorem dX5_sketchesFilled_2 : decode cX5_sketchesFilled 2 = .ok (.iconst 0, 1) := by decide +kernel
theorem dX5_sketchesFilled_3 : decode cX5_sketchesFilled 3 = .ok (.istore_n 2, 1) := by decide +kernel
theorem dX5_sketchesFilled_4 : decode cX5_sketchesFilled 4 = .ok (.iload_n 2, 1) := by decide +kernel
theorem dX5_sketchesFilled_5 : decode cX5_sketchesFilled 5 = .ok (.bipush 6, 2) := by decide +kernel
theorem dX5_sketchesFilled_7 : decode cX5_sketchesFilled 7 = .ok (.if_icmp .ge 25, 3) := by decide +kernel
theorem dX5_sketchesFilled_10 : decode cX5_sketchesFilled 10 = .ok (.iload_n 1, 1) := by decide +kernel
theorem dX5_sketchesFilled_11 : decode cX5_sketchesFilled 11 = .ok (.aload_n 0, 1) := by decide +kernel
theorem dX5_sketchesFilled_12 : decode cX5_sketchesFilled 12 = .ok (.iload_n 2, 1) := by decide +kernel
theorem dX5_sketchesFilled_13 : decode cX5_sketchesFilled 13 = .ok (.invokevirtual 72, 3) := by decide +kernel
theorem dX5_sketchesFilled_16 : decode cX5_sketchesFilled 16 = .ok (.ifCond .le 7, 3) := by decide +kernel
theorem dX5_sketchesFilled_19 : decode cX5_sketchesFilled 19 = .ok (.iconst 1, 1) := by decide +kernel
theorem dX5_sketchesFilled_20 : decode cX5_sketchesFilled 20 = .ok (.goto 4, 3) := by decide +kernel
theorem dX5_sketchesFilled_23 : decode cX5_sketchesFilled 23 = .ok (.iconst 0, 1) := by decide +kernel
theorem dX5_sketchesFilled_24 : decode cX5_sketchesFilled 24 = .ok (.iadd, 1) := by decide +kernel
theorem dX5_sketchesFilled_25 : decode cX5_sketchesFilled 25 = .ok (.istore_n 1, 1) := by decide +kernel
theorem dX5_sketchesFilled_26 : decode cX5_sketchesFilled 26 = .ok (.iinc 2 1, 3) := by decide +kernel
theorem dX5_sketchesFilled_29 : decode cX5_sketchesFilled 29 = .ok (.goto (-25), 3) := by decide +kernel
theorem dX5_sketchesFilled_32 : decode cX5_sketchesFilled 32 = .ok (.iload_n 1, 1) := by decide +kernel
theorem dX5_sketchesFilled_33 : decode cX5_sketchesFilled 33 = .ok (.ireturn, 1) := by decide +kernel
set_option maxRecDepth 20000 in
theorem ggX5_fullLists_X5_isFull : GoodIn wsX5_fullLists wsX5_isFull := goodIn_r _ [5, 6, 7, 8, 4, 9, 10, 11, 12, 13, 14, 15, 16, 17, 18, 19, 20, 21, 22, 23] (by decide +kernel) (by decide +kernel)
set_option maxRecDepth 20000 in
theorem gX5_fullLists_X5_isFull : GoodIn wsX5_fullLists (wsV RX5 99 RX5 yX5_isFull wsX5_isFull) := goodIn_app (goodIn_of _ (by decide +kernel)) ggX5_fullLists_X5_isFull
theorem dX5_fullLists_0 : decode cX5_fullLists 0 = .ok (.iconst 0, 1) := by decide +kernel
theorem dX5_fullLists_1 : decode cX5_fullLists 1 = .ok (.istore_n 1, 1) := by decide +kernel
theorem dX5_fullLists_2 : decode cX5_fullLists 2 = .ok (.iconst 0, 1) := by decide +kernel
theorem dX5_fullLists_3 : decode cX5_fullLists 3 = .ok (.istore_n 2, 1) := by decide +kernel
theorem dX5_fullLists_4 : decode cX5_fullLists 4 = .ok (.iload_n 2, 1) := by decide +kernel
theorem dX5_fullLists_5 : decode cX5_fullLists 5 = .ok (.bipush 6, 2) := by decide +kernel
theorem dX5_fullLists_7 : decode cX5_fullLists 7 = .ok (.if_icmp .ge 25, 3) := by decide +kernel
theorem dX5_fullLists_10 : decode cX5_fullLists 10 = .ok (.iload_n 1, 1) := by decide +kernel
theorem dX5_fullLists_11 : decode cX5_fullLists 11 = .ok (.aload_n 0, 1) := by decide +kernel
theorem dX5_fullLists_12 : decode cX5_fullLists 12 = .ok (.iload_n 2, 1) := by decide +kernel
theorem dX5_fullLists_13 : decode cX5_fullLists 13 = .ok (.invokevirtual 99, 3) := by decide +kernel
theorem dX5_fullLists_16 : decode cX5_fullLists 16 = .ok (.ifCond .eq 7, 3) := by decide +kernel
theorem dX5_fullLists_19 : decode cX5_fullLists 19 = .ok (.iconst 1, 1) := by decide +kernel
theorem dX5_fullLists_20 : decode cX5_fullLists 20 = .ok (.goto 4, 3) := by decide +kernel
theorem dX5_fullLists_23 : decode cX5_fullLists 23 = .ok (.iconst 0, 1) := by decide +kernel
theorem dX5_fullLists_24 : decode cX5_fullLists 24 = .ok (.iadd, 1) := by decide +kernel
theorem dX5_fullLists_25 : decode cX5_fullLists 25 = .ok (.istore_n 1, 1) := by decide +kernel
theorem dX5_fullLists_26 : decode cX5_fullLists 26 = .ok (.iinc 2 1, 3) := by decide +kernel
theorem dX5_fullLists_29 : decode cX5_fullLists 29 = .ok (.goto (-25), 3) := by decide +kernel
theorem dX5_fullLists_32 : decode cX5_fullLists 32 = .ok (.iload_n 1, 1) := by decide +kernel
theorem dX5_fullLists_33 : decode cX5_fullLists 33 = .ok (.ireturn, 1) := by decide +kernel
set_option maxRecDepth 20000 in
theorem ggX5_count_X5_sketchesFilled : GoodIn wsX5_count wsX5_sketchesFilled := goodIn_r _ [8, 9, 10, 11, 7, 12, 13, 14, 15, 16, 17, 18, 19, 20, 1, 33, 34, 35, 36, 37, 38, 39, 40, 41, 42, 43, 44, 45] (by decide +kernel) (by decide +kernel)
set_option maxRecDepth 20000 in
theorem gX5_count_X5_sketchesFilled : GoodIn wsX5_count (wsV RX5 163 RX5 yX5_sketchesFilled wsX5_sketchesFilled) := goodIn_app (goodIn_of _ (by decide +kernel)) ggX5_count_X5_sketchesFilled
set_option maxRecDepth 20000 in
theorem ggX5_count_X5_allFilled : GoodIn wsX5_count wsX5_allFilled := goodIn_r _ [24, 9, 10, 11, 7, 12, 13, 14, 15, 16, 17, 18, 19, 20, 1, 33, 34, 35, 36, 37, 38, 39, 40, 41, 42, 43, 44, 45] (by decide +kernel) (by decide +kernel)
set_option maxRecDepth 20000 in
theorem gX5_count_X5_allFilled : GoodIn wsX5_count (wsV RX5 167 RX5 yX5_allFilled wsX5_allFilled) := goodIn_app (goodIn_of _ (by decide +kernel)) ggX5_count_X5_allFilled
set_option maxRecDepth 20000 in
theorem ggX5_count_X5_fullLists : GoodIn wsX5_count wsX5_fullLists := goodIn_r _ [28, 29, 30, 31, 7, 32, 17, 18, 19, 20, 1, 33, 34, 35, 36, 37, 38, 39, 40, 41, 42, 43, 44, 45] (by decide +kernel) (by decide +kernel)
set_option maxRecDepth 20000 in
theorem gX5_count_X5_fullLists : GoodIn wsX5_count (wsV RX5 170 RX5 yX5_fullLists wsX5_fullLists) := goodIn_app (goodIn_of _ (by decide +kernel)) ggX5_count_X5_fullLists
theorem dX5_count_0 : decode cX5_count 0 = .ok (.iload_n 1, 1) := by decide +kernel
theorem dX5_count_1 : decode cX5_count 1 = .ok (.tableswitch 71 0 5 #[39, 46, 51, 56, 61, 66], 39) := by decide +kernel
theorem dX5_count_40 : decode cX5_count 40 = .ok (.aload_n 0, 1) := by decide +kernel
theorem dX5_count_41 : decode cX5_count 41 = .ok (.getfield 7, 3) := by decide +kernel
theorem dX5_count_44 : decode cX5_count 44 = .ok (.iconst 0, 1) := by decide +kernel
theorem dX5_count_45 : decode cX5_count 45 = .ok (.iaload, 1) := by decide +kernel
theorem dX5_count_46 : decode cX5_count 46 = .ok (.ireturn, 1) := by decide +kernel
theorem dX5_count_47 : decode cX5_count 47 = .ok (.aload_n 0, 1) := by decide +kernel
theorem dX5_count_48 : decode cX5_count 48 = .ok (.invokevirtual 163, 3) := by decide +kernel
theorem dX5_count_51 : decode cX5_count 51 = .ok (.ireturn, 1) := by decide +kernel
theorem dX5_count_52 : decode cX5_count 52 = .ok (.aload_n 0, 1) := by decide +kernel
theorem dX5_count_53 : decode cX5_count 53 = .ok (.invokevirtual 167, 3) := by decide +kernel
theorem dX5_count_56 : decode cX5_count 56 = .ok (.ireturn, 1) := by decide +kernel
theorem dX5_count_57 : decode cX5_count 57 = .ok (.aload_n 0, 1) := by decide +kernel
theorem dX5_count_58 : decode cX5_count 58 = .ok (.invokevirtual 170, 3) := by decide +kernel
theorem dX5_count_61 : decode cX5_count 61 = .ok (.ireturn, 1) := by decide +kernel
theorem dX5_count_62 : decode cX5_count 62 = .ok (.aload_n 0, 1) := by decide +kernel
theorem dX5_count_63 : decode cX5_count 63 = .ok (.getfield 173, 3) := by decide +kernel
theorem dX5_count_66 : decode cX5_count 66 = .ok (.ireturn, 1) := by decide +kernel
theorem dX5_count_67 : decode cX5_count 67 = .ok (.aload_n 0, 1) := by decide +kernel
theorem dX5_count_68 : decode cX5_count 68 = .ok (.getfield 35, 3) := by decide +kernel
theorem dX5_count_71 : decode cX5_count 71 = .ok (.ireturn, 1) := by decide +kernel
theorem dX5_count_72 : decode cX5_count 72 = .ok (.bipush (-2), 2) := by decide +kernel
theorem dX5_count_74 : decode cX5_count 74 = .ok (.ireturn, 1) := by decide +kernel
set_option maxRecDepth 20000 in
theorem ggX5_together_X5_whyNotJoined : GoodIn wsX5_together wsX5_whyNotJoined := goodIn_r _ [6, 7, 8, 5, 9, 10, 11, 12, 13, 14, 15, 16, 17, 46, 47, 48, 49, 50, 51, 52, 53, 54, 55, 56, 57, 58] (by decide +kernel) (by decide +kernel)
set_option maxRecDepth 20000 in
theorem gX5_together_X5_whyNotJoined : GoodIn wsX5_together (wsV RX5 141 RX5 yX5_whyNotJoined wsX5_whyNotJoined) := goodIn_app (goodIn_of _ (by decide +kernel)) ggX5_together_X5_whyNotJoined
set_option maxRecDepth 20000 in
theorem ggX5_together_X5_takeRanks : GoodIn wsX5_together wsX5_takeRanks := goodIn_r _ [21, 1, 13, 14, 15, 5, 16, 17, 46, 47, 48, 49, 50, 51, 52, 53, 54, 55, 56, 57, 58] (by decide +kernel) (by decide +kernel)
set_option maxRecDepth 20000 in
theorem gX5_together_X5_takeRanks : GoodIn wsX5_together (wsV RX5 89 RX5 yX5_takeRanks wsX5_takeRanks) := goodIn_app (goodIn_of _ (by decide +kernel)) ggX5_together_X5_takeRanks
set_option maxRecDepth 20000 in
theorem ggX5_together_X5_part : GoodIn wsX5_together wsX5_part := goodIn_r _ [16, 17, 46, 47, 48, 49, 50, 51, 52, 53, 54, 55, 56, 57, 58] (by decide +kernel) (by decide +kernel)
set_option maxRecDepth 20000 in
theorem gX5_together_X5_part : GoodIn wsX5_together (wsV RX5 48 RX5 yX5_part wsX5_part) := goodIn_app (goodIn_of _ (by decide +kernel)) ggX5_together_X5_part
set_option maxRecDepth 20000 in
theorem ggX5_together_X5_bucketsOf : GoodIn wsX5_together wsX5_bucketsOf := goodIn_r _ [25, 13, 14, 15, 5, 16, 17, 46, 47, 48, 49, 50, 51, 52, 53, 54, 55, 56, 57, 58] (by decide +kernel) (by decide +kernel)
set_option maxRecDepth 20000 in
theorem gX5_together_X5_bucketsOf : GoodIn wsX5_together (wsV RX5 59 RX5 yX5_bucketsOf wsX5_bucketsOf) := goodIn_app (goodIn_of _ (by decide +kernel)) ggX5_together_X5_bucketsOf
set_option maxRecDepth 20000 in
theorem ggX5_together_X5_estimateBy : GoodIn wsX5_together wsX5_estimateBy := goodIn_r _ [29, 30, 31, 32, 5, 33, 34, 35, 36, 37, 38, 39, 40, 41, 1, 42, 43, 44, 45, 46, 47, 48, 49, 50, 51, 52, 53, 54, 55, 56, 57, 58] (by decide +kernel) (by decide +kernel)
set_option maxRecDepth 20000 in
theorem gX5_together_X5_estimateBy : GoodIn wsX5_together (wsV RX5 93 RX5 yX5_estimateBy wsX5_estimateBy) := goodIn_app (goodIn_of _ (by decide +kernel)) ggX5_together_X5_estimateBy
theorem dX5_together_0 : decode cX5_together 0 = .ok (.aload_n 0, 1) := by decide +kernel
theorem dX5_together_1 : decode cX5_together 1 = .ok (.iload_n 1, 1) := by decide +kernel
theorem dX5_together_2 : decode cX5_together 2 = .ok (.iload_n 2, 1) := by decide +kernel
theorem dX5_together_3 : decode cX5_together 3 = .ok (.invokevirtual 141, 3) := by decide +kernel
theorem dX5_together_6 : decode cX5_together 6 = .ok (.istore_n 3, 1) := by decide +kernel
theorem dX5_together_7 : decode cX5_together 7 = .ok (.iload_n 3, 1) := by decide +kernel
theorem dX5_together_8 : decode cX5_together 8 = .ok (.ifCond .ge 15, 3) := by decide +kernel
theorem dX5_together_11 : decode cX5_together 11 = .ok (.iload_n 3, 1) := by decide +kernel
theorem dX5_together_12 : decode cX5_together 12 = .ok (.iconst (-1), 1) := by decide +kernel
theorem dX5_together_13 : decode cX5_together 13 = .ok (.if_icmp .eq 8, 3) := by decide +kernel
theorem dX5_together_16 : decode cX5_together 16 = .ok (.iload_n 1, 1) := by decide +kernel
theorem dX5_together_17 : decode cX5_together 17 = .ok (.iload_n 2, 1) := by decide +kernel
theorem dX5_together_18 : decode cX5_together 18 = .ok (.if_icmp .eq 5, 3) := by decide +kernel
theorem dX5_together_21 : decode cX5_together 21 = .ok (.iload_n 3, 1) := by decide +kernel
theorem dX5_together_22 : decode cX5_together 22 = .ok (.ireturn, 1) := by decide +kernel
theorem dX5_together_23 : decode cX5_together 23 = .ok (.aload_n 0, 1) := by decide +kernel
theorem dX5_together_24 : decode cX5_together 24 = .ok (.iload_n 1, 1) := by decide +kernel
theorem dX5_together_25 : decode cX5_together 25 = .ok (.invokevirtual 89, 3) := by decide +kernel
theorem dX5_together_28 : decode cX5_together 28 = .ok (.iconst 0, 1) := by decide +kernel
theorem dX5_together_29 : decode cX5_together 29 = .ok (.istore 4, 2) := by decide +kernel
theorem dX5_together_31 : decode cX5_together 31 = .ok (.iload 4, 2) := by decide +kernel
theorem dX5_together_33 : decode cX5_together 33 = .ok (.bipush 64, 2) := by decide +kernel
theorem dX5_together_35 : decode cX5_together 35 = .ok (.if_icmp .ge 54, 3) := by decide +kernel
theorem dX5_together_38 : decode cX5_together 38 = .ok (.aload_n 0, 1) := by decide +kernel
theorem dX5_together_39 : decode cX5_together 39 = .ok (.getfield 25, 3) := by decide +kernel
theorem dX5_together_42 : decode cX5_together 42 = .ok (.iload 4, 2) := by decide +kernel
theorem dX5_together_44 : decode cX5_together 44 = .ok (.aload_n 0, 1) := by decide +kernel
theorem dX5_together_45 : decode cX5_together 45 = .ok (.iload_n 2, 1) := by decide +kernel
theorem dX5_together_46 : decode cX5_together 46 = .ok (.iconst 2, 1) := by decide +kernel
theorem dX5_together_47 : decode cX5_together 47 = .ok (.iload 4, 2) := by decide +kernel
theorem dX5_together_49 : decode cX5_together 49 = .ok (.iadd, 1) := by decide +kernel
theorem dX5_together_50 : decode cX5_together 50 = .ok (.invokevirtual 48, 3) := by decide +kernel
theorem dX5_together_53 : decode cX5_together 53 = .ok (.aload_n 0, 1) := by decide +kernel
theorem dX5_together_54 : decode cX5_together 54 = .ok (.getfield 25, 3) := by decide +kernel
theorem dX5_together_57 : decode cX5_together 57 = .ok (.iload 4, 2) := by decide +kernel
theorem dX5_together_59 : decode cX5_together 59 = .ok (.iaload, 1) := by decide +kernel
theorem dX5_together_60 : decode cX5_together 60 = .ok (.if_icmp .le 15, 3) := by decide +kernel
theorem dX5_together_63 : decode cX5_together 63 = .ok (.aload_n 0, 1) := by decide +kernel
theorem dX5_together_64 : decode cX5_together 64 = .ok (.iload_n 2, 1) := by decide +kernel
theorem dX5_together_65 : decode cX5_together 65 = .ok (.iconst 2, 1) := by decide +kernel
theorem dX5_together_66 : decode cX5_together 66 = .ok (.iload 4, 2) := by decide +kernel
theorem dX5_together_68 : decode cX5_together 68 = .ok (.iadd, 1) := by decide +kernel
theorem dX5_together_69 : decode cX5_together 69 = .ok (.invokevirtual 48, 3) := by decide +kernel
theorem dX5_together_72 : decode cX5_together 72 = .ok (.goto 10, 3) := by decide +kernel
theorem dX5_together_75 : decode cX5_together 75 = .ok (.aload_n 0, 1) := by decide +kernel
theorem dX5_together_76 : decode cX5_together 76 = .ok (.getfield 25, 3) := by decide +kernel
theorem dX5_together_79 : decode cX5_together 79 = .ok (.iload 4, 2) := by decide +kernel
theorem dX5_together_81 : decode cX5_together 81 = .ok (.iaload, 1) := by decide +kernel
theorem dX5_together_82 : decode cX5_together 82 = .ok (.iastore, 1) := by decide +kernel
theorem dX5_together_83 : decode cX5_together 83 = .ok (.iinc 4 1, 3) := by decide +kernel
theorem dX5_together_86 : decode cX5_together 86 = .ok (.goto (-55), 3) := by decide +kernel
theorem dX5_together_89 : decode cX5_together 89 = .ok (.aload_n 0, 1) := by decide +kernel
theorem dX5_together_90 : decode cX5_together 90 = .ok (.aload_n 0, 1) := by decide +kernel
theorem dX5_together_91 : decode cX5_together 91 = .ok (.iload_n 1, 1) := by decide +kernel
theorem dX5_together_92 : decode cX5_together 92 = .ok (.invokevirtual 59, 3) := by decide +kernel
theorem dX5_together_95 : decode cX5_together 95 = .ok (.invokevirtual 93, 3) := by decide +kernel
theorem dX5_together_98 : decode cX5_together 98 = .ok (.ireturn, 1) := by decide +kernel
theorem dX5_shareBits_0 : decode cX5_shareBits 0 = .ok (.iload_n 0, 1) := by decide +kernel
theorem dX5_shareBits_1 : decode cX5_shareBits 1 = .ok (.ifCond .ne 5, 3) := by decide +kernel
theorem dX5_shareBits_4 : decode cX5_shareBits 4 = .ok (.iconst 0, 1) := by decide +kernel
theorem dX5_shareBits_5 : decode cX5_shareBits 5 = .ok (.ireturn, 1) := by decide +kernel
theorem dX5_shareBits_6 : decode cX5_shareBits 6 = .ok (.iconst 0, 1) := by decide +kernel
theorem dX5_shareBits_7 : decode cX5_shareBits 7 = .ok (.istore_n 2, 1) := by decide +kernel
theorem dX5_shareBits_8 : decode cX5_shareBits 8 = .ok (.iload_n 0, 1) := by decide +kernel
theorem dX5_shareBits_9 : decode cX5_shareBits 9 = .ok (.iload_n 2, 1) := by decide +kernel
theorem dX5_shareBits_10 : decode cX5_shareBits 10 = .ok (.ishr, 1) := by decide +kernel
theorem dX5_shareBits_11 : decode cX5_shareBits 11 = .ok (.iconst 1, 1) := by decide +kernel
theorem dX5_shareBits_12 : decode cX5_shareBits 12 = .ok (.if_icmp .le 9, 3) := by decide +kernel
theorem dX5_shareBits_15 : decode cX5_shareBits 15 = .ok (.iinc 2 1, 3) := by decide +kernel
theorem dX5_shareBits_18 : decode cX5_shareBits 18 = .ok (.goto (-10), 3) := by decide +kernel
theorem dX5_shareBits_21 : decode cX5_shareBits 21 = .ok (.bipush 127, 2) := by decide +kernel
theorem dX5_shareBits_23 : decode cX5_shareBits 23 = .ok (.iload_n 2, 1) := by decide +kernel
theorem dX5_shareBits_24 : decode cX5_shareBits 24 = .ok (.iadd, 1) := by decide +kernel
theorem dX5_shareBits_25 : decode cX5_shareBits 25 = .ok (.iload_n 1, 1) := by decide +kernel
theorem dX5_shareBits_26 : decode cX5_shareBits 26 = .ok (.isub, 1) := by decide +kernel
theorem dX5_shareBits_27 : decode cX5_shareBits 27 = .ok (.bipush 23, 2) := by decide +kernel
theorem dX5_shareBits_29 : decode cX5_shareBits 29 = .ok (.ishl, 1) := by decide +kernel
theorem dX5_shareBits_30 : decode cX5_shareBits 30 = .ok (.iload_n 0, 1) := by decide +kernel
theorem dX5_shareBits_31 : decode cX5_shareBits 31 = .ok (.iconst 1, 1) := by decide +kernel
theorem dX5_shareBits_32 : decode cX5_shareBits 32 = .ok (.iload_n 2, 1) := by decide +kernel
theorem dX5_shareBits_33 : decode cX5_shareBits 33 = .ok (.ishl, 1) := by decide +kernel
theorem dX5_shareBits_34 : decode cX5_shareBits 34 = .ok (.isub, 1) := by decide +kernel
theorem dX5_shareBits_35 : decode cX5_shareBits 35 = .ok (.bipush 23, 2) := by decide +kernel
theorem dX5_shareBits_37 : decode cX5_shareBits 37 = .ok (.iload_n 2, 1) := by decide +kernel
theorem dX5_shareBits_38 : decode cX5_shareBits 38 = .ok (.isub, 1) := by decide +kernel
theorem dX5_shareBits_39 : decode cX5_shareBits 39 = .ok (.ishl, 1) := by decide +kernel
theorem dX5_shareBits_40 : decode cX5_shareBits 40 = .ok (.iadd, 1) := by decide +kernel
theorem dX5_shareBits_41 : decode cX5_shareBits 41 = .ok (.ireturn, 1) := by decide +kernel
set_option maxRecDepth 20000 in
theorem ggX5_alike_X5_whyNotJoined : GoodIn wsX5_alike wsX5_whyNotJoined := goodIn_r _ [5, 6, 7, 4, 8, 9, 10, 11, 12, 13, 14, 15, 16, 24, 25, 26, 27, 28, 29, 30, 31, 32, 33, 34, 35, 36] (by decide +kernel) (by decide +kernel)
set_option maxRecDepth 20000 in
theorem gX5_alike_X5_whyNotJoined : GoodIn wsX5_alike (wsV RX5 141 RX5 yX5_whyNotJoined wsX5_whyNotJoined) := goodIn_app (goodIn_of _ (by decide +kernel)) ggX5_alike_X5_whyNotJoined
set_option maxRecDepth 20000 in
theorem ggX5_alike_X5_bucketsOf : GoodIn wsX5_alike wsX5_bucketsOf := goodIn_r _ [20, 12, 13, 14, 4, 15, 16, 24, 25, 26, 27, 28, 29, 30, 31, 32, 33, 34, 35, 36] (by decide +kernel) (by decide +kernel)
set_option maxRecDepth 20000 in
theorem gX5_alike_X5_bucketsOf : GoodIn wsX5_alike (wsV RX5 59 RX5 yX5_bucketsOf wsX5_bucketsOf) := goodIn_app (goodIn_of _ (by decide +kernel)) ggX5_alike_X5_bucketsOf
set_option maxRecDepth 20000 in
theorem ggX5_alike_X5_part : GoodIn wsX5_alike wsX5_part := goodIn_r _ [15, 16, 24, 25, 26, 27, 28, 29, 30, 31, 32, 33, 34, 35, 36] (by decide +kernel) (by decide +kernel)
set_option maxRecDepth 20000 in
theorem gX5_alike_X5_part : GoodIn wsX5_alike (wsV RX5 48 RX5 yX5_part wsX5_part) := goodIn_app (goodIn_of _ (by decide +kernel)) ggX5_alike_X5_part
set_option maxRecDepth 20000 in
theorem ggX5_alike_X5_shareBits : GoodIn wsX5_alike wsX5_shareBits := goodIn_r _ [23] (by decide +kernel) (by decide +kernel)
set_option maxRecDepth 20000 in
theorem gX5_alike_X5_shareBits : GoodIn wsX5_alike (va_wsS RX5 176 yX5_shareBits wsX5_shareBits) := goodIn_app (goodIn_of _ (by decide +kernel)) ggX5_alike_X5_shareBits
theorem dX5_alike_0 : decode cX5_alike 0 = .ok (.aload_n 0, 1) := by decide +kernel
theorem dX5_alike_1 : decode cX5_alike 1 = .ok (.iload_n 1, 1) := by decide +kernel
theorem dX5_alike_2 : decode cX5_alike 2 = .ok (.iload_n 2, 1) := by decide +kernel
theorem dX5_alike_3 : decode cX5_alike 3 = .ok (.invokevirtual 141, 3) := by decide +kernel
theorem dX5_alike_6 : decode cX5_alike 6 = .ok (.istore_n 3, 1) := by decide +kernel
theorem dX5_alike_7 : decode cX5_alike 7 = .ok (.iload_n 3, 1) := by decide +kernel
theorem dX5_alike_8 : decode cX5_alike 8 = .ok (.ifCond .ge 15, 3) := by decide +kernel
theorem dX5_alike_11 : decode cX5_alike 11 = .ok (.iload_n 3, 1) := by decide +kernel
theorem dX5_alike_12 : decode cX5_alike 12 = .ok (.iconst (-1), 1) := by decide +kernel
theorem dX5_alike_13 : decode cX5_alike 13 = .ok (.if_icmp .eq 8, 3) := by decide +kernel
theorem dX5_alike_16 : decode cX5_alike 16 = .ok (.iload_n 1, 1) := by decide +kernel
theorem dX5_alike_17 : decode cX5_alike 17 = .ok (.iload_n 2, 1) := by decide +kernel
theorem dX5_alike_18 : decode cX5_alike 18 = .ok (.if_icmp .eq 5, 3) := by decide +kernel
theorem dX5_alike_21 : decode cX5_alike 21 = .ok (.iload_n 3, 1) := by decide +kernel
theorem dX5_alike_22 : decode cX5_alike 22 = .ok (.ireturn, 1) := by decide +kernel
theorem dX5_alike_23 : decode cX5_alike 23 = .ok (.iconst 0, 1) := by decide +kernel
theorem dX5_alike_24 : decode cX5_alike 24 = .ok (.istore 4, 2) := by decide +kernel
theorem dX5_alike_26 : decode cX5_alike 26 = .ok (.iconst 0, 1) := by decide +kernel
theorem dX5_alike_27 : decode cX5_alike 27 = .ok (.istore 5, 2) := by decide +kernel
theorem dX5_alike_29 : decode cX5_alike 29 = .ok (.iload 5, 2) := by decide +kernel
theorem dX5_alike_31 : decode cX5_alike 31 = .ok (.aload_n 0, 1) := by decide +kernel
theorem dX5_alike_32 : decode cX5_alike 32 = .ok (.iload_n 1, 1) := by decide +kernel
theorem dX5_alike_33 : decode cX5_alike 33 = .ok (.invokevirtual 59, 3) := by decide +kernel
theorem dX5_alike_36 : decode cX5_alike 36 = .ok (.if_icmp .ge 40, 3) := by decide +kernel
theorem dX5_alike_39 : decode cX5_alike 39 = .ok (.iload 4, 2) := by decide +kernel
theorem dX5_alike_41 : decode cX5_alike 41 = .ok (.aload_n 0, 1) := by decide +kernel
theorem dX5_alike_42 : decode cX5_alike 42 = .ok (.iload_n 1, 1) := by decide +kernel
theorem dX5_alike_43 : decode cX5_alike 43 = .ok (.iconst 2, 1) := by decide +kernel
theorem dX5_alike_44 : decode cX5_alike 44 = .ok (.iload 5, 2) := by decide +kernel
theorem dX5_alike_46 : decode cX5_alike 46 = .ok (.iadd, 1) := by decide +kernel
theorem dX5_alike_47 : decode cX5_alike 47 = .ok (.invokevirtual 48, 3) := by decide +kernel
theorem dX5_alike_50 : decode cX5_alike 50 = .ok (.aload_n 0, 1) := by decide +kernel
theorem dX5_alike_51 : decode cX5_alike 51 = .ok (.iload_n 2, 1) := by decide +kernel
theorem dX5_alike_52 : decode cX5_alike 52 = .ok (.iconst 2, 1) := by decide +kernel
theorem dX5_alike_53 : decode cX5_alike 53 = .ok (.iload 5, 2) := by decide +kernel
theorem dX5_alike_55 : decode cX5_alike 55 = .ok (.iadd, 1) := by decide +kernel
theorem dX5_alike_56 : decode cX5_alike 56 = .ok (.invokevirtual 48, 3) := by decide +kernel
theorem dX5_alike_59 : decode cX5_alike 59 = .ok (.if_icmp .ne 7, 3) := by decide +kernel
theorem dX5_alike_62 : decode cX5_alike 62 = .ok (.iconst 1, 1) := by decide +kernel
theorem dX5_alike_63 : decode cX5_alike 63 = .ok (.goto 4, 3) := by decide +kernel
theorem dX5_alike_66 : decode cX5_alike 66 = .ok (.iconst 0, 1) := by decide +kernel
theorem dX5_alike_67 : decode cX5_alike 67 = .ok (.iadd, 1) := by decide +kernel
theorem dX5_alike_68 : decode cX5_alike 68 = .ok (.istore 4, 2) := by decide +kernel
theorem dX5_alike_70 : decode cX5_alike 70 = .ok (.iinc 5 1, 3) := by decide +kernel
theorem dX5_alike_73 : decode cX5_alike 73 = .ok (.goto (-44), 3) := by decide +kernel
theorem dX5_alike_76 : decode cX5_alike 76 = .ok (.iload 4, 2) := by decide +kernel
theorem dX5_alike_78 : decode cX5_alike 78 = .ok (.aload_n 0, 1) := by decide +kernel
theorem dX5_alike_79 : decode cX5_alike 79 = .ok (.iload_n 1, 1) := by decide +kernel
theorem dX5_alike_80 : decode cX5_alike 80 = .ok (.iconst 0, 1) := by decide +kernel
theorem dX5_alike_81 : decode cX5_alike 81 = .ok (.invokevirtual 48, 3) := by decide +kernel
theorem dX5_alike_84 : decode cX5_alike 84 = .ok (.invokestatic 176, 3) := by decide +kernel
theorem dX5_alike_87 : decode cX5_alike 87 = .ok (.ireturn, 1) := by decide +kernel
set_option maxRecDepth 20000 in
theorem ggX5_off_X5_isSketch : GoodIn wsX5_off wsX5_isSketch := goodIn_r _ [5, 6, 7, 4, 8] (by decide +kernel) (by decide +kernel)
set_option maxRecDepth 20000 in
theorem gX5_off_X5_isSketch : GoodIn wsX5_off (va_wsS RX5 124 yX5_isSketch wsX5_isSketch) := goodIn_app (goodIn_of _ (by decide +kernel)) ggX5_off_X5_isSketch
set_option maxRecDepth 20000 in
theorem ggX5_off_X5_isFull : GoodIn wsX5_off wsX5_isFull := goodIn_r _ [12, 13, 14, 15, 4, 16, 17, 51, 52, 53, 54, 55, 56, 57, 58, 59, 60, 61, 62, 63] (by decide +kernel) (by decide +kernel)
set_option maxRecDepth 20000 in
theorem gX5_off_X5_isFull : GoodIn wsX5_off (wsV RX5 99 RX5 yX5_isFull wsX5_isFull) := goodIn_app (goodIn_of _ (by decide +kernel)) ggX5_off_X5_isFull
set_option maxRecDepth 20000 in
theorem ggX5_off_X5_estimateOf : GoodIn wsX5_off wsX5_estimateOf := goodIn_r _ [21, 22, 23, 24, 4, 25, 26, 13, 14, 15, 16, 17, 27, 28, 29, 30, 31, 32, 33, 34, 35, 36, 37, 38, 39, 40, 41, 42, 43, 44, 45, 46, 47, 48, 49, 50, 51, 52, 53, 54, 55, 56, 57, 58, 59, 60, 61, 62, 63] (by decide +kernel) (by decide +kernel)
set_option maxRecDepth 20000 in
theorem gX5_off_X5_estimateOf : GoodIn wsX5_off (wsV RX5 96 RX5 yX5_estimateOf wsX5_estimateOf) := goodIn_app (goodIn_of _ (by decide +kernel)) ggX5_off_X5_estimateOf
set_option maxRecDepth 20000 in
theorem ggX5_off_X5_part : GoodIn wsX5_off wsX5_part := goodIn_r _ [16, 17, 51, 52, 53, 54, 55, 56, 57, 58, 59, 60, 61, 62, 63] (by decide +kernel) (by decide +kernel)
set_option maxRecDepth 20000 in
theorem gX5_off_X5_part : GoodIn wsX5_off (wsV RX5 48 RX5 yX5_part wsX5_part) := goodIn_app (goodIn_of _ (by decide +kernel)) ggX5_off_X5_part
theorem dX5_off_0 : decode cX5_off 0 = .ok (.iload_n 1, 1) := by decide +kernel
theorem dX5_off_1 : decode cX5_off 1 = .ok (.invokestatic 124, 3) := by decide +kernel
theorem dX5_off_4 : decode cX5_off 4 = .ok (.ifCond .ne 5, 3) := by decide +kernel
theorem dX5_off_7 : decode cX5_off 7 = .ok (.iconst (-1), 1) := by decide +kernel
theorem dX5_off_8 : decode cX5_off 8 = .ok (.ireturn, 1) := by decide +kernel
theorem dX5_off_9 : decode cX5_off 9 = .ok (.aload_n 0, 1) := by decide +kernel
theorem dX5_off_10 : decode cX5_off 10 = .ok (.iload_n 1, 1) := by decide +kernel
theorem dX5_off_11 : decode cX5_off 11 = .ok (.invokevirtual 99, 3) := by decide +kernel
theorem dX5_off_14 : decode cX5_off 14 = .ok (.ifCond .eq 8, 3) := by decide +kernel
theorem dX5_off_17 : decode cX5_off 17 = .ok (.bipush (-5), 2) := by decide +kernel
theorem dX5_off_19 : decode cX5_off 19 = .ok (.goto 18, 3) := by decide +kernel
theorem dX5_off_22 : decode cX5_off 22 = .ok (.aload_n 0, 1) := by decide +kernel
theorem dX5_off_23 : decode cX5_off 23 = .ok (.iload_n 1, 1) := by decide +kernel
theorem dX5_off_24 : decode cX5_off 24 = .ok (.invokevirtual 96, 3) := by decide +kernel
theorem dX5_off_27 : decode cX5_off 27 = .ok (.aload_n 0, 1) := by decide +kernel
theorem dX5_off_28 : decode cX5_off 28 = .ok (.iload_n 1, 1) := by decide +kernel
theorem dX5_off_29 : decode cX5_off 29 = .ok (.iconst 1, 1) := by decide +kernel
theorem dX5_off_30 : decode cX5_off 30 = .ok (.invokevirtual 48, 3) := by decide +kernel
theorem dX5_off_33 : decode cX5_off 33 = .ok (.isub, 1) := by decide +kernel
theorem dX5_off_34 : decode cX5_off 34 = .ok (.ldc 133, 2) := by decide +kernel
theorem dX5_off_36 : decode cX5_off 36 = .ok (.iadd, 1) := by decide +kernel
theorem dX5_off_37 : decode cX5_off 37 = .ok (.ireturn, 1) := by decide +kernel
set_option maxRecDepth 20000 in
theorem ggX5_nextNew_X5_isSketch : GoodIn wsX5_nextNew wsX5_isSketch := goodIn_r _ [5, 6, 7, 4, 8] (by decide +kernel) (by decide +kernel)
set_option maxRecDepth 20000 in
theorem gX5_nextNew_X5_isSketch : GoodIn wsX5_nextNew (va_wsS RX5 124 yX5_isSketch wsX5_isSketch) := goodIn_app (goodIn_of _ (by decide +kernel)) ggX5_nextNew_X5_isSketch
set_option maxRecDepth 20000 in
theorem ggX5_nextNew_X5_isThing : GoodIn wsX5_nextNew wsX5_isThing := goodIn_r _ [11, 12, 6, 7, 4, 8] (by decide +kernel) (by decide +kernel)
set_option maxRecDepth 20000 in
theorem gX5_nextNew_X5_isThing : GoodIn wsX5_nextNew (va_wsS RX5 127 yX5_isThing wsX5_isThing) := goodIn_app (goodIn_of _ (by decide +kernel)) ggX5_nextNew_X5_isThing
set_option maxRecDepth 20000 in
theorem ggX5_nextNew_X5_wouldChange : GoodIn wsX5_nextNew wsX5_wouldChange := goodIn_r _ [16, 17, 18, 19, 4, 20, 21, 22, 23, 24, 25, 26, 27, 28, 29, 30, 31, 32, 33, 34, 35, 36, 37, 38, 39, 40, 41, 42, 43, 44, 45, 46, 47, 48, 49, 50, 51, 52, 53, 54] (by decide +kernel) (by decide +kernel)
set_option maxRecDepth 20000 in
theorem gX5_nextNew_X5_wouldChange : GoodIn wsX5_nextNew (wsV RX5 110 RX5 yX5_wouldChange wsX5_wouldChange) := goodIn_app (goodIn_of _ (by decide +kernel)) ggX5_nextNew_X5_wouldChange
theorem dX5_nextNew_0 : decode cX5_nextNew 0 = .ok (.iload_n 1, 1) := by decide +kernel
theorem dX5_nextNew_1 : decode cX5_nextNew 1 = .ok (.invokestatic 124, 3) := by decide +kernel
theorem dX5_nextNew_4 : decode cX5_nextNew 4 = .ok (.ifCond .ne 5, 3) := by decide +kernel
theorem dX5_nextNew_7 : decode cX5_nextNew 7 = .ok (.iconst (-1), 1) := by decide +kernel
theorem dX5_nextNew_8 : decode cX5_nextNew 8 = .ok (.ireturn, 1) := by decide +kernel
theorem dX5_nextNew_9 : decode cX5_nextNew 9 = .ok (.iload_n 2, 1) := by decide +kernel
theorem dX5_nextNew_10 : decode cX5_nextNew 10 = .ok (.invokestatic 127, 3) := by decide +kernel
theorem dX5_nextNew_13 : decode cX5_nextNew 13 = .ok (.ifCond .ne 6, 3) := by decide +kernel
theorem dX5_nextNew_16 : decode cX5_nextNew 16 = .ok (.bipush (-2), 2) := by decide +kernel
theorem dX5_nextNew_18 : decode cX5_nextNew 18 = .ok (.ireturn, 1) := by decide +kernel
theorem dX5_nextNew_19 : decode cX5_nextNew 19 = .ok (.iload_n 2, 1) := by decide +kernel
theorem dX5_nextNew_20 : decode cX5_nextNew 20 = .ok (.istore_n 3, 1) := by decide +kernel
theorem dX5_nextNew_21 : decode cX5_nextNew 21 = .ok (.iload_n 3, 1) := by decide +kernel
theorem dX5_nextNew_22 : decode cX5_nextNew 22 = .ok (.ldc 133, 2) := by decide +kernel
theorem dX5_nextNew_24 : decode cX5_nextNew 24 = .ok (.if_icmp .ge 20, 3) := by decide +kernel
theorem dX5_nextNew_27 : decode cX5_nextNew 27 = .ok (.aload_n 0, 1) := by decide +kernel
theorem dX5_nextNew_28 : decode cX5_nextNew 28 = .ok (.iload_n 1, 1) := by decide +kernel
theorem dX5_nextNew_29 : decode cX5_nextNew 29 = .ok (.iload_n 3, 1) := by decide +kernel
theorem dX5_nextNew_30 : decode cX5_nextNew 30 = .ok (.invokevirtual 110, 3) := by decide +kernel
theorem dX5_nextNew_33 : decode cX5_nextNew 33 = .ok (.ifCond .eq 5, 3) := by decide +kernel
theorem dX5_nextNew_36 : decode cX5_nextNew 36 = .ok (.iload_n 3, 1) := by decide +kernel
theorem dX5_nextNew_37 : decode cX5_nextNew 37 = .ok (.ireturn, 1) := by decide +kernel
theorem dX5_nextNew_38 : decode cX5_nextNew 38 = .ok (.iinc 3 1, 3) := by decide +kernel
theorem dX5_nextNew_41 : decode cX5_nextNew 41 = .ok (.goto (-20), 3) := by decide +kernel
theorem dX5_nextNew_44 : decode cX5_nextNew 44 = .ok (.bipush (-6), 2) := by decide +kernel
theorem dX5_nextNew_46 : decode cX5_nextNew 46 = .ok (.ireturn, 1) := by decide +kernel
set_option maxRecDepth 20000 in
theorem ggX5_takeRanksBy_X5_part : GoodIn wsX5_takeRanksBy wsX5_part := goodIn_r _ [6, 7, 20, 21, 22, 23, 24, 25, 26, 27, 28, 29, 30, 31, 32] (by decide +kernel) (by decide +kernel)
set_option maxRecDepth 20000 in
theorem gX5_takeRanksBy_X5_part : GoodIn wsX5_takeRanksBy (wsV RX5 48 RX5 yX5_part wsX5_part) := goodIn_app (goodIn_of _ (by decide +kernel)) ggX5_takeRanksBy_X5_part
set_option maxRecDepth 20000 in
theorem ggX5_takeRanksBy_X5_hashOf : GoodIn wsX5_takeRanksBy wsX5_hashOf := goodIn_r _ [10, 11, 12] (by decide +kernel) (by decide +kernel)
set_option maxRecDepth 20000 in
theorem gX5_takeRanksBy_X5_hashOf : GoodIn wsX5_takeRanksBy (va_wsS RX5 56 yX5_hashOf wsX5_hashOf) := goodIn_app (goodIn_of _ (by decide +kernel)) ggX5_takeRanksBy_X5_hashOf
set_option maxRecDepth 20000 in
theorem ggX5_takeRanksBy_X5_bucketsOf : GoodIn wsX5_takeRanksBy wsX5_bucketsOf := goodIn_r _ [16, 2, 3, 4, 5, 6, 7, 20, 21, 22, 23, 24, 25, 26, 27, 28, 29, 30, 31, 32] (by decide +kernel) (by decide +kernel)
set_option maxRecDepth 20000 in
theorem gX5_takeRanksBy_X5_bucketsOf : GoodIn wsX5_takeRanksBy (wsV RX5 59 RX5 yX5_bucketsOf wsX5_bucketsOf) := goodIn_app (goodIn_of _ (by decide +kernel)) ggX5_takeRanksBy_X5_bucketsOf
set_option maxRecDepth 20000 in
theorem ggX5_takeRanksBy_X5_rankOf : GoodIn wsX5_takeRanksBy wsX5_rankOf := goodIn_r _ [19] (by decide +kernel) (by decide +kernel)
set_option maxRecDepth 20000 in
theorem gX5_takeRanksBy_X5_rankOf : GoodIn wsX5_takeRanksBy (va_wsS RX5 63 yX5_rankOf wsX5_rankOf) := goodIn_app (goodIn_of _ (by decide +kernel)) ggX5_takeRanksBy_X5_rankOf
theorem dX5_takeRanksBy_0 : decode cX5_takeRanksBy 0 = .ok (.iconst 0, 1) := by decide +kernel
theorem dX5_takeRanksBy_1 : decode cX5_takeRanksBy 1 = .ok (.istore_n 3, 1) := by decide +kernel
theorem dX5_takeRanksBy_2 : decode cX5_takeRanksBy 2 = .ok (.iload_n 3, 1) := by decide +kernel
theorem dX5_takeRanksBy_3 : decode cX5_takeRanksBy 3 = .ok (.bipush 64, 2) := by decide +kernel
theorem dX5_takeRanksBy_5 : decode cX5_takeRanksBy 5 = .ok (.if_icmp .ge 16, 3) := by decide +kernel
theorem dX5_takeRanksBy_8 : decode cX5_takeRanksBy 8 = .ok (.aload_n 0, 1) := by decide +kernel
theorem dX5_takeRanksBy_9 : decode cX5_takeRanksBy 9 = .ok (.getfield 25, 3) := by decide +kernel
theorem dX5_takeRanksBy_12 : decode cX5_takeRanksBy 12 = .ok (.iload_n 3, 1) := by decide +kernel
theorem dX5_takeRanksBy_13 : decode cX5_takeRanksBy 13 = .ok (.iconst 0, 1) := by decide +kernel
theorem dX5_takeRanksBy_14 : decode cX5_takeRanksBy 14 = .ok (.iastore, 1) := by decide +kernel
theorem dX5_takeRanksBy_15 : decode cX5_takeRanksBy 15 = .ok (.iinc 3 1, 3) := by decide +kernel
theorem dX5_takeRanksBy_18 : decode cX5_takeRanksBy 18 = .ok (.goto (-16), 3) := by decide +kernel
theorem dX5_takeRanksBy_21 : decode cX5_takeRanksBy 21 = .ok (.iconst 0, 1) := by decide +kernel
theorem dX5_takeRanksBy_22 : decode cX5_takeRanksBy 22 = .ok (.istore_n 3, 1) := by decide +kernel
theorem dX5_takeRanksBy_23 : decode cX5_takeRanksBy 23 = .ok (.iload_n 3, 1) := by decide +kernel
theorem dX5_takeRanksBy_24 : decode cX5_takeRanksBy 24 = .ok (.aload_n 0, 1) := by decide +kernel
theorem dX5_takeRanksBy_25 : decode cX5_takeRanksBy 25 = .ok (.iload_n 1, 1) := by decide +kernel
theorem dX5_takeRanksBy_26 : decode cX5_takeRanksBy 26 = .ok (.iconst 1, 1) := by decide +kernel
theorem dX5_takeRanksBy_27 : decode cX5_takeRanksBy 27 = .ok (.invokevirtual 48, 3) := by decide +kernel
theorem dX5_takeRanksBy_30 : decode cX5_takeRanksBy 30 = .ok (.if_icmp .ge 78, 3) := by decide +kernel
theorem dX5_takeRanksBy_33 : decode cX5_takeRanksBy 33 = .ok (.aload_n 0, 1) := by decide +kernel
theorem dX5_takeRanksBy_34 : decode cX5_takeRanksBy 34 = .ok (.iload_n 1, 1) := by decide +kernel
theorem dX5_takeRanksBy_35 : decode cX5_takeRanksBy 35 = .ok (.bipush 66, 2) := by decide +kernel
theorem dX5_takeRanksBy_37 : decode cX5_takeRanksBy 37 = .ok (.iload_n 3, 1) := by decide +kernel
theorem dX5_takeRanksBy_38 : decode cX5_takeRanksBy 38 = .ok (.iadd, 1) := by decide +kernel
theorem dX5_takeRanksBy_39 : decode cX5_takeRanksBy 39 = .ok (.invokevirtual 48, 3) := by decide +kernel
theorem dX5_takeRanksBy_42 : decode cX5_takeRanksBy 42 = .ok (.iload_n 2, 1) := by decide +kernel
theorem dX5_takeRanksBy_43 : decode cX5_takeRanksBy 43 = .ok (.invokestatic 56, 3) := by decide +kernel
theorem dX5_takeRanksBy_46 : decode cX5_takeRanksBy 46 = .ok (.istore 4, 2) := by decide +kernel
theorem dX5_takeRanksBy_48 : decode cX5_takeRanksBy 48 = .ok (.iload 4, 2) := by decide +kernel
theorem dX5_takeRanksBy_50 : decode cX5_takeRanksBy 50 = .ok (.aload_n 0, 1) := by decide +kernel
theorem dX5_takeRanksBy_51 : decode cX5_takeRanksBy 51 = .ok (.iload_n 1, 1) := by decide +kernel
theorem dX5_takeRanksBy_52 : decode cX5_takeRanksBy 52 = .ok (.invokevirtual 59, 3) := by decide +kernel
theorem dX5_takeRanksBy_55 : decode cX5_takeRanksBy 55 = .ok (.irem, 1) := by decide +kernel
theorem dX5_takeRanksBy_56 : decode cX5_takeRanksBy 56 = .ok (.istore 5, 2) := by decide +kernel
theorem dX5_takeRanksBy_58 : decode cX5_takeRanksBy 58 = .ok (.iload 4, 2) := by decide +kernel
theorem dX5_takeRanksBy_60 : decode cX5_takeRanksBy 60 = .ok (.aload_n 0, 1) := by decide +kernel
theorem dX5_takeRanksBy_61 : decode cX5_takeRanksBy 61 = .ok (.iload_n 1, 1) := by decide +kernel
theorem dX5_takeRanksBy_62 : decode cX5_takeRanksBy 62 = .ok (.iconst 0, 1) := by decide +kernel
theorem dX5_takeRanksBy_63 : decode cX5_takeRanksBy 63 = .ok (.invokevirtual 48, 3) := by decide +kernel
theorem dX5_takeRanksBy_66 : decode cX5_takeRanksBy 66 = .ok (.invokestatic 63, 3) := by decide +kernel
theorem dX5_takeRanksBy_69 : decode cX5_takeRanksBy 69 = .ok (.istore 6, 2) := by decide +kernel
theorem dX5_takeRanksBy_71 : decode cX5_takeRanksBy 71 = .ok (.aload_n 0, 1) := by decide +kernel
theorem dX5_takeRanksBy_72 : decode cX5_takeRanksBy 72 = .ok (.getfield 25, 3) := by decide +kernel
theorem dX5_takeRanksBy_75 : decode cX5_takeRanksBy 75 = .ok (.iload 5, 2) := by decide +kernel
theorem dX5_takeRanksBy_77 : decode cX5_takeRanksBy 77 = .ok (.iload 6, 2) := by decide +kernel
theorem dX5_takeRanksBy_79 : decode cX5_takeRanksBy 79 = .ok (.aload_n 0, 1) := by decide +kernel
theorem dX5_takeRanksBy_80 : decode cX5_takeRanksBy 80 = .ok (.getfield 25, 3) := by decide +kernel
theorem dX5_takeRanksBy_83 : decode cX5_takeRanksBy 83 = .ok (.iload 5, 2) := by decide +kernel
theorem dX5_takeRanksBy_85 : decode cX5_takeRanksBy 85 = .ok (.iaload, 1) := by decide +kernel
theorem dX5_takeRanksBy_86 : decode cX5_takeRanksBy 86 = .ok (.if_icmp .le 8, 3) := by decide +kernel
theorem dX5_takeRanksBy_89 : decode cX5_takeRanksBy 89 = .ok (.iload 6, 2) := by decide +kernel
theorem dX5_takeRanksBy_91 : decode cX5_takeRanksBy 91 = .ok (.goto 10, 3) := by decide +kernel
theorem dX5_takeRanksBy_94 : decode cX5_takeRanksBy 94 = .ok (.aload_n 0, 1) := by decide +kernel
theorem dX5_takeRanksBy_95 : decode cX5_takeRanksBy 95 = .ok (.getfield 25, 3) := by decide +kernel
theorem dX5_takeRanksBy_98 : decode cX5_takeRanksBy 98 = .ok (.iload 5, 2) := by decide +kernel
theorem dX5_takeRanksBy_100 : decode cX5_takeRanksBy 100 = .ok (.iaload, 1) := by decide +kernel
theorem dX5_takeRanksBy_101 : decode cX5_takeRanksBy 101 = .ok (.iastore, 1) := by decide +kernel
theorem dX5_takeRanksBy_102 : decode cX5_takeRanksBy 102 = .ok (.iinc 3 1, 3) := by decide +kernel
theorem dX5_takeRanksBy_105 : decode cX5_takeRanksBy 105 = .ok (.goto (-82), 3) := by decide +kernel
theorem dX5_takeRanksBy_108 : decode cX5_takeRanksBy 108 = .ok (.return_, 1) := by decide +kernel
set_option maxRecDepth 20000 in
theorem ggX5_bestSalt_X5_isSketch : GoodIn wsX5_bestSalt wsX5_isSketch := goodIn_r _ [4, 5, 6, 3, 7] (by decide +kernel) (by decide +kernel)
set_option maxRecDepth 20000 in
theorem gX5_bestSalt_X5_isSketch : GoodIn wsX5_bestSalt (va_wsS RX5 124 yX5_isSketch wsX5_isSketch) := goodIn_app (goodIn_of _ (by decide +kernel)) ggX5_bestSalt_X5_isSketch
set_option maxRecDepth 20000 in
theorem ggX5_bestSalt_X5_isFull : GoodIn wsX5_bestSalt wsX5_isFull := goodIn_r _ [11, 12, 13, 14, 3, 15, 16, 53, 54, 55, 56, 57, 58, 59, 60, 61, 62, 63, 64, 65] (by decide +kernel) (by decide +kernel)
set_option maxRecDepth 20000 in
theorem gX5_bestSalt_X5_isFull : GoodIn wsX5_bestSalt (wsV RX5 99 RX5 yX5_isFull wsX5_isFull) := goodIn_app (goodIn_of _ (by decide +kernel)) ggX5_bestSalt_X5_isFull
set_option maxRecDepth 20000 in
theorem ggX5_bestSalt_X5_takeRanksBy : GoodIn wsX5_bestSalt wsX5_takeRanksBy := goodIn_r _ [20, 21, 12, 13, 14, 3, 15, 16, 22, 23, 24, 25, 26, 27, 28, 29, 30, 31, 32, 33, 53, 54, 55, 56, 57, 58, 59, 60, 61, 62, 63, 64, 65] (by decide +kernel) (by decide +kernel)
set_option maxRecDepth 20000 in
theorem gX5_bestSalt_X5_takeRanksBy : GoodIn wsX5_bestSalt (wsV RX5 179 RX5 yX5_takeRanksBy wsX5_takeRanksBy) := goodIn_app (goodIn_of _ (by decide +kernel)) ggX5_bestSalt_X5_takeRanksBy
set_option maxRecDepth 20000 in
theorem ggX5_bestSalt_X5_bucketsOf : GoodIn wsX5_bestSalt wsX5_bucketsOf := goodIn_r _ [30, 12, 13, 14, 3, 15, 16, 53, 54, 55, 56, 57, 58, 59, 60, 61, 62, 63, 64, 65] (by decide +kernel) (by decide +kernel)
set_option maxRecDepth 20000 in
theorem gX5_bestSalt_X5_bucketsOf : GoodIn wsX5_bestSalt (wsV RX5 59 RX5 yX5_bucketsOf wsX5_bucketsOf) := goodIn_app (goodIn_of _ (by decide +kernel)) ggX5_bestSalt_X5_bucketsOf
set_option maxRecDepth 20000 in
theorem ggX5_bestSalt_X5_estimateBy : GoodIn wsX5_bestSalt wsX5_estimateBy := goodIn_r _ [37, 38, 39, 40, 3, 41, 26, 42, 43, 44, 45, 46, 47, 48, 21, 49, 50, 51, 52, 53, 54, 55, 56, 57, 58, 59, 60, 61, 62, 63, 64, 65] (by decide +kernel) (by decide +kernel)
set_option maxRecDepth 20000 in
theorem gX5_bestSalt_X5_estimateBy : GoodIn wsX5_bestSalt (wsV RX5 93 RX5 yX5_estimateBy wsX5_estimateBy) := goodIn_app (goodIn_of _ (by decide +kernel)) ggX5_bestSalt_X5_estimateBy
set_option maxRecDepth 20000 in
theorem ggX5_bestSalt_X5_part : GoodIn wsX5_bestSalt wsX5_part := goodIn_r _ [15, 16, 53, 54, 55, 56, 57, 58, 59, 60, 61, 62, 63, 64, 65] (by decide +kernel) (by decide +kernel)
set_option maxRecDepth 20000 in
theorem gX5_bestSalt_X5_part : GoodIn wsX5_bestSalt (wsV RX5 48 RX5 yX5_part wsX5_part) := goodIn_app (goodIn_of _ (by decide +kernel)) ggX5_bestSalt_X5_part
theorem dX5_bestSalt_0 : decode cX5_bestSalt 0 = .ok (.iload_n 1, 1) := by decide +kernel
theorem dX5_bestSalt_1 : decode cX5_bestSalt 1 = .ok (.invokestatic 124, 3) := by decide +kernel
theorem dX5_bestSalt_4 : decode cX5_bestSalt 4 = .ok (.ifCond .ne 5, 3) := by decide +kernel
theorem dX5_bestSalt_7 : decode cX5_bestSalt 7 = .ok (.iconst (-1), 1) := by decide +kernel
theorem dX5_bestSalt_8 : decode cX5_bestSalt 8 = .ok (.ireturn, 1) := by decide +kernel
theorem dX5_bestSalt_9 : decode cX5_bestSalt 9 = .ok (.aload_n 0, 1) := by decide +kernel
theorem dX5_bestSalt_10 : decode cX5_bestSalt 10 = .ok (.iload_n 1, 1) := by decide +kernel
theorem dX5_bestSalt_11 : decode cX5_bestSalt 11 = .ok (.invokevirtual 99, 3) := by decide +kernel
theorem dX5_bestSalt_14 : decode cX5_bestSalt 14 = .ok (.ifCond .eq 6, 3) := by decide +kernel
theorem dX5_bestSalt_17 : decode cX5_bestSalt 17 = .ok (.bipush (-5), 2) := by decide +kernel
theorem dX5_bestSalt_19 : decode cX5_bestSalt 19 = .ok (.ireturn, 1) := by decide +kernel
theorem dX5_bestSalt_20 : decode cX5_bestSalt 20 = .ok (.bipush (-6), 2) := by decide +kernel
theorem dX5_bestSalt_22 : decode cX5_bestSalt 22 = .ok (.istore_n 2, 1) := by decide +kernel
theorem dX5_bestSalt_23 : decode cX5_bestSalt 23 = .ok (.iconst 0, 1) := by decide +kernel
theorem dX5_bestSalt_24 : decode cX5_bestSalt 24 = .ok (.istore_n 3, 1) := by decide +kernel
theorem dX5_bestSalt_25 : decode cX5_bestSalt 25 = .ok (.iconst 0, 1) := by decide +kernel
theorem dX5_bestSalt_26 : decode cX5_bestSalt 26 = .ok (.istore 4, 2) := by decide +kernel
theorem dX5_bestSalt_28 : decode cX5_bestSalt 28 = .ok (.iload 4, 2) := by decide +kernel
theorem dX5_bestSalt_30 : decode cX5_bestSalt 30 = .ok (.sipush 256, 3) := by decide +kernel
theorem dX5_bestSalt_33 : decode cX5_bestSalt 33 = .ok (.if_icmp .ge 92, 3) := by decide +kernel
theorem dX5_bestSalt_36 : decode cX5_bestSalt 36 = .ok (.aload_n 0, 1) := by decide +kernel
theorem dX5_bestSalt_37 : decode cX5_bestSalt 37 = .ok (.iload_n 1, 1) := by decide +kernel
theorem dX5_bestSalt_38 : decode cX5_bestSalt 38 = .ok (.iload 4, 2) := by decide +kernel
theorem dX5_bestSalt_40 : decode cX5_bestSalt 40 = .ok (.invokevirtual 179, 3) := by decide +kernel
theorem dX5_bestSalt_43 : decode cX5_bestSalt 43 = .ok (.aload_n 0, 1) := by decide +kernel
theorem dX5_bestSalt_44 : decode cX5_bestSalt 44 = .ok (.aload_n 0, 1) := by decide +kernel
theorem dX5_bestSalt_45 : decode cX5_bestSalt 45 = .ok (.iload_n 1, 1) := by decide +kernel
theorem dX5_bestSalt_46 : decode cX5_bestSalt 46 = .ok (.invokevirtual 59, 3) := by decide +kernel
theorem dX5_bestSalt_49 : decode cX5_bestSalt 49 = .ok (.invokevirtual 93, 3) := by decide +kernel
theorem dX5_bestSalt_52 : decode cX5_bestSalt 52 = .ok (.aload_n 0, 1) := by decide +kernel
theorem dX5_bestSalt_53 : decode cX5_bestSalt 53 = .ok (.iload_n 1, 1) := by decide +kernel
theorem dX5_bestSalt_54 : decode cX5_bestSalt 54 = .ok (.iconst 1, 1) := by decide +kernel
theorem dX5_bestSalt_55 : decode cX5_bestSalt 55 = .ok (.invokevirtual 48, 3) := by decide +kernel
theorem dX5_bestSalt_58 : decode cX5_bestSalt 58 = .ok (.isub, 1) := by decide +kernel
theorem dX5_bestSalt_59 : decode cX5_bestSalt 59 = .ok (.istore 5, 2) := by decide +kernel
theorem dX5_bestSalt_61 : decode cX5_bestSalt 61 = .ok (.iload 5, 2) := by decide +kernel
theorem dX5_bestSalt_63 : decode cX5_bestSalt 63 = .ok (.ifCond .ge 9, 3) := by decide +kernel
theorem dX5_bestSalt_66 : decode cX5_bestSalt 66 = .ok (.iload 5, 2) := by decide +kernel
theorem dX5_bestSalt_68 : decode cX5_bestSalt 68 = .ok (.ineg, 1) := by decide +kernel
theorem dX5_bestSalt_69 : decode cX5_bestSalt 69 = .ok (.goto 5, 3) := by decide +kernel
theorem dX5_bestSalt_72 : decode cX5_bestSalt 72 = .ok (.iload 5, 2) := by decide +kernel
theorem dX5_bestSalt_74 : decode cX5_bestSalt 74 = .ok (.istore 6, 2) := by decide +kernel
theorem dX5_bestSalt_76 : decode cX5_bestSalt 76 = .ok (.iload_n 2, 1) := by decide +kernel
theorem dX5_bestSalt_77 : decode cX5_bestSalt 77 = .ok (.bipush (-6), 2) := by decide +kernel
theorem dX5_bestSalt_79 : decode cX5_bestSalt 79 = .ok (.if_icmp .eq 9, 3) := by decide +kernel
theorem dX5_bestSalt_82 : decode cX5_bestSalt 82 = .ok (.iload 6, 2) := by decide +kernel
theorem dX5_bestSalt_84 : decode cX5_bestSalt 84 = .ok (.iload_n 3, 1) := by decide +kernel
theorem dX5_bestSalt_85 : decode cX5_bestSalt 85 = .ok (.if_icmp .ge 7, 3) := by decide +kernel
theorem dX5_bestSalt_88 : decode cX5_bestSalt 88 = .ok (.iconst 1, 1) := by decide +kernel
theorem dX5_bestSalt_89 : decode cX5_bestSalt 89 = .ok (.goto 4, 3) := by decide +kernel
theorem dX5_bestSalt_92 : decode cX5_bestSalt 92 = .ok (.iconst 0, 1) := by decide +kernel
theorem dX5_bestSalt_93 : decode cX5_bestSalt 93 = .ok (.istore 7, 2) := by decide +kernel
theorem dX5_bestSalt_95 : decode cX5_bestSalt 95 = .ok (.iload 7, 2) := by decide +kernel
theorem dX5_bestSalt_97 : decode cX5_bestSalt 97 = .ok (.ifCond .eq 8, 3) := by decide +kernel
theorem dX5_bestSalt_100 : decode cX5_bestSalt 100 = .ok (.iload 4, 2) := by decide +kernel
theorem dX5_bestSalt_102 : decode cX5_bestSalt 102 = .ok (.goto 4, 3) := by decide +kernel
theorem dX5_bestSalt_105 : decode cX5_bestSalt 105 = .ok (.iload_n 2, 1) := by decide +kernel
theorem dX5_bestSalt_106 : decode cX5_bestSalt 106 = .ok (.istore_n 2, 1) := by decide +kernel
theorem dX5_bestSalt_107 : decode cX5_bestSalt 107 = .ok (.iload 7, 2) := by decide +kernel
theorem dX5_bestSalt_109 : decode cX5_bestSalt 109 = .ok (.ifCond .eq 8, 3) := by decide +kernel
theorem dX5_bestSalt_112 : decode cX5_bestSalt 112 = .ok (.iload 6, 2) := by decide +kernel
theorem dX5_bestSalt_114 : decode cX5_bestSalt 114 = .ok (.goto 4, 3) := by decide +kernel
theorem dX5_bestSalt_117 : decode cX5_bestSalt 117 = .ok (.iload_n 3, 1) := by decide +kernel
theorem dX5_bestSalt_118 : decode cX5_bestSalt 118 = .ok (.istore_n 3, 1) := by decide +kernel
theorem dX5_bestSalt_119 : decode cX5_bestSalt 119 = .ok (.iinc 4 1, 3) := by decide +kernel
theorem dX5_bestSalt_122 : decode cX5_bestSalt 122 = .ok (.goto (-94), 3) := by decide +kernel
theorem dX5_bestSalt_125 : decode cX5_bestSalt 125 = .ok (.iload_n 2, 1) := by decide +kernel
theorem dX5_bestSalt_126 : decode cX5_bestSalt 126 = .ok (.ireturn, 1) := by decide +kernel
set_option maxRecDepth 20000 in
theorem ggX5_put_X5_within : GoodIn wsX5_put wsX5_within := goodIn_r _ [7] (by decide +kernel) (by decide +kernel)
set_option maxRecDepth 20000 in
theorem gX5_put_X5_within : GoodIn wsX5_put (va_wsS RX5 43 yX5_within wsX5_within) := goodIn_app (goodIn_of _ (by decide +kernel)) ggX5_put_X5_within
theorem dX5_put_0 : decode cX5_put 0 = .ok (.iconst 0, 1) := by decide +kernel
theorem dX5_put_1 : decode cX5_put 1 = .ok (.istore_n 3, 1) := by decide +kernel
theorem dX5_put_2 : decode cX5_put 2 = .ok (.lload_n 1, 1) := by decide +kernel
theorem dX5_put_3 : decode cX5_put 3 = .ok (.lstore 4, 2) := by decide +kernel
theorem dX5_put_5 : decode cX5_put 5 = .ok (.iconst 1, 1) := by decide +kernel
theorem dX5_put_6 : decode cX5_put 6 = .ok (.istore 6, 2) := by decide +kernel
theorem dX5_put_8 : decode cX5_put 8 = .ok (.iload_n 3, 1) := by decide +kernel
theorem dX5_put_9 : decode cX5_put 9 = .ok (.bipush 8, 2) := by decide +kernel
theorem dX5_put_11 : decode cX5_put 11 = .ok (.if_icmp .ge 56, 3) := by decide +kernel
theorem dX5_put_14 : decode cX5_put 14 = .ok (.lload 4, 2) := by decide +kernel
theorem dX5_put_16 : decode cX5_put 16 = .ok (.ldc2_w 182, 3) := by decide +kernel
theorem dX5_put_19 : decode cX5_put 19 = .ok (.land, 1) := by decide +kernel
theorem dX5_put_20 : decode cX5_put 20 = .ok (.lconst 0, 1) := by decide +kernel
theorem dX5_put_21 : decode cX5_put 21 = .ok (.lcmp, 1) := by decide +kernel
theorem dX5_put_22 : decode cX5_put 22 = .ok (.ifCond .eq 45, 3) := by decide +kernel
theorem dX5_put_25 : decode cX5_put 25 = .ok (.iload 6, 2) := by decide +kernel
theorem dX5_put_27 : decode cX5_put 27 = .ok (.ifCond .eq 24, 3) := by decide +kernel
theorem dX5_put_30 : decode cX5_put 30 = .ok (.lload 4, 2) := by decide +kernel
theorem dX5_put_32 : decode cX5_put 32 = .ok (.ldc2_w 182, 3) := by decide +kernel
theorem dX5_put_35 : decode cX5_put 35 = .ok (.land, 1) := by decide +kernel
theorem dX5_put_36 : decode cX5_put 36 = .ok (.l2i, 1) := by decide +kernel
theorem dX5_put_37 : decode cX5_put 37 = .ok (.bipush 33, 2) := by decide +kernel
theorem dX5_put_39 : decode cX5_put 39 = .ok (.bipush 126, 2) := by decide +kernel
theorem dX5_put_41 : decode cX5_put 41 = .ok (.invokestatic 43, 3) := by decide +kernel
theorem dX5_put_44 : decode cX5_put 44 = .ok (.ifCond .eq 7, 3) := by decide +kernel
theorem dX5_put_47 : decode cX5_put 47 = .ok (.iconst 1, 1) := by decide +kernel
theorem dX5_put_48 : decode cX5_put 48 = .ok (.goto 4, 3) := by decide +kernel
theorem dX5_put_51 : decode cX5_put 51 = .ok (.iconst 0, 1) := by decide +kernel
theorem dX5_put_52 : decode cX5_put 52 = .ok (.istore 6, 2) := by decide +kernel
theorem dX5_put_54 : decode cX5_put 54 = .ok (.lload 4, 2) := by decide +kernel
theorem dX5_put_56 : decode cX5_put 56 = .ok (.bipush 8, 2) := by decide +kernel
theorem dX5_put_58 : decode cX5_put 58 = .ok (.lushr, 1) := by decide +kernel
theorem dX5_put_59 : decode cX5_put 59 = .ok (.lstore 4, 2) := by decide +kernel
theorem dX5_put_61 : decode cX5_put 61 = .ok (.iinc 3 1, 3) := by decide +kernel
theorem dX5_put_64 : decode cX5_put 64 = .ok (.goto (-56), 3) := by decide +kernel
theorem dX5_put_67 : decode cX5_put 67 = .ok (.iload_n 3, 1) := by decide +kernel
theorem dX5_put_68 : decode cX5_put 68 = .ok (.ifCond .eq 15, 3) := by decide +kernel
theorem dX5_put_71 : decode cX5_put 71 = .ok (.iload 6, 2) := by decide +kernel
theorem dX5_put_73 : decode cX5_put 73 = .ok (.ifCond .eq 10, 3) := by decide +kernel
theorem dX5_put_76 : decode cX5_put 76 = .ok (.lload 4, 2) := by decide +kernel
theorem dX5_put_78 : decode cX5_put 78 = .ok (.lconst 0, 1) := by decide +kernel
theorem dX5_put_79 : decode cX5_put 79 = .ok (.lcmp, 1) := by decide +kernel
theorem dX5_put_80 : decode cX5_put 80 = .ok (.ifCond .eq 6, 3) := by decide +kernel
theorem dX5_put_83 : decode cX5_put 83 = .ok (.bipush (-2), 2) := by decide +kernel
theorem dX5_put_85 : decode cX5_put 85 = .ok (.ireturn, 1) := by decide +kernel
theorem dX5_put_86 : decode cX5_put 86 = .ok (.aload_n 0, 1) := by decide +kernel
theorem dX5_put_87 : decode cX5_put 87 = .ok (.getfield 173, 3) := by decide +kernel
theorem dX5_put_90 : decode cX5_put 90 = .ok (.iload_n 3, 1) := by decide +kernel
theorem dX5_put_91 : decode cX5_put 91 = .ok (.iadd, 1) := by decide +kernel
theorem dX5_put_92 : decode cX5_put 92 = .ok (.bipush 80, 2) := by decide +kernel
theorem dX5_put_94 : decode cX5_put 94 = .ok (.if_icmp .le 6, 3) := by decide +kernel
theorem dX5_put_97 : decode cX5_put 97 = .ok (.bipush (-4), 2) := by decide +kernel
theorem dX5_put_99 : decode cX5_put 99 = .ok (.ireturn, 1) := by decide +kernel
theorem dX5_put_100 : decode cX5_put 100 = .ok (.iload_n 3, 1) := by decide +kernel
theorem dX5_put_101 : decode cX5_put 101 = .ok (.iconst 1, 1) := by decide +kernel
theorem dX5_put_102 : decode cX5_put 102 = .ok (.isub, 1) := by decide +kernel
theorem dX5_put_103 : decode cX5_put 103 = .ok (.istore 7, 2) := by decide +kernel
theorem dX5_put_105 : decode cX5_put 105 = .ok (.iload 7, 2) := by decide +kernel
theorem dX5_put_107 : decode cX5_put 107 = .ok (.ifCond .lt 40, 3) := by decide +kernel
theorem dX5_put_110 : decode cX5_put 110 = .ok (.aload_n 0, 1) := by decide +kernel
theorem dX5_put_111 : decode cX5_put 111 = .ok (.getfield 22, 3) := by decide +kernel
theorem dX5_put_114 : decode cX5_put 114 = .ok (.aload_n 0, 1) := by decide +kernel
theorem dX5_put_115 : decode cX5_put 115 = .ok (.getfield 173, 3) := by decide +kernel
theorem dX5_put_118 : decode cX5_put 118 = .ok (.lload_n 1, 1) := by decide +kernel
theorem dX5_put_119 : decode cX5_put 119 = .ok (.bipush 8, 2) := by decide +kernel
theorem dX5_put_121 : decode cX5_put 121 = .ok (.iload 7, 2) := by decide +kernel
theorem dX5_put_123 : decode cX5_put 123 = .ok (.imul, 1) := by decide +kernel
theorem dX5_put_124 : decode cX5_put 124 = .ok (.lushr, 1) := by decide +kernel
theorem dX5_put_125 : decode cX5_put 125 = .ok (.ldc2_w 182, 3) := by decide +kernel
theorem dX5_put_128 : decode cX5_put 128 = .ok (.land, 1) := by decide +kernel
theorem dX5_put_129 : decode cX5_put 129 = .ok (.l2i, 1) := by decide +kernel
theorem dX5_put_130 : decode cX5_put 130 = .ok (.iastore, 1) := by decide +kernel
theorem dX5_put_131 : decode cX5_put 131 = .ok (.aload_n 0, 1) := by decide +kernel
theorem dX5_put_132 : decode cX5_put 132 = .ok (.dup, 1) := by decide +kernel
theorem dX5_put_133 : decode cX5_put 133 = .ok (.getfield 173, 3) := by decide +kernel
theorem dX5_put_136 : decode cX5_put 136 = .ok (.iconst 1, 1) := by decide +kernel
theorem dX5_put_137 : decode cX5_put 137 = .ok (.iadd, 1) := by decide +kernel
theorem dX5_put_138 : decode cX5_put 138 = .ok (.putfield 173, 3) := by decide +kernel
theorem dX5_put_141 : decode cX5_put 141 = .ok (.iinc 7 (-1), 3) := by decide +kernel
theorem dX5_put_144 : decode cX5_put 144 = .ok (.goto (-39), 3) := by decide +kernel
theorem dX5_put_147 : decode cX5_put 147 = .ok (.aload_n 0, 1) := by decide +kernel
theorem dX5_put_148 : decode cX5_put 148 = .ok (.getfield 173, 3) := by decide +kernel
theorem dX5_put_151 : decode cX5_put 151 = .ok (.ireturn, 1) := by decide +kernel
theorem dX5_wipe_0 : decode cX5_wipe 0 = .ok (.aload_n 0, 1) := by decide +kernel
theorem dX5_wipe_1 : decode cX5_wipe 1 = .ok (.getfield 173, 3) := by decide +kernel
theorem dX5_wipe_4 : decode cX5_wipe 4 = .ok (.istore_n 1, 1) := by decide +kernel
theorem dX5_wipe_5 : decode cX5_wipe 5 = .ok (.aload_n 0, 1) := by decide +kernel
theorem dX5_wipe_6 : decode cX5_wipe 6 = .ok (.iconst 0, 1) := by decide +kernel
theorem dX5_wipe_7 : decode cX5_wipe 7 = .ok (.putfield 173, 3) := by decide +kernel
theorem dX5_wipe_10 : decode cX5_wipe 10 = .ok (.iload_n 1, 1) := by decide +kernel
theorem dX5_wipe_11 : decode cX5_wipe 11 = .ok (.ireturn, 1) := by decide +kernel
theorem dX5_character_0 : decode cX5_character 0 = .ok (.iload_n 1, 1) := by decide +kernel
theorem dX5_character_1 : decode cX5_character 1 = .ok (.aload_n 0, 1) := by decide +kernel
theorem dX5_character_2 : decode cX5_character 2 = .ok (.getfield 173, 3) := by decide +kernel
theorem dX5_character_5 : decode cX5_character 5 = .ok (.if_icmp .ge 12, 3) := by decide +kernel
theorem dX5_character_8 : decode cX5_character 8 = .ok (.aload_n 0, 1) := by decide +kernel
theorem dX5_character_9 : decode cX5_character 9 = .ok (.getfield 22, 3) := by decide +kernel
theorem dX5_character_12 : decode cX5_character 12 = .ok (.iload_n 1, 1) := by decide +kernel
theorem dX5_character_13 : decode cX5_character 13 = .ok (.iaload, 1) := by decide +kernel
theorem dX5_character_14 : decode cX5_character 14 = .ok (.goto 4, 3) := by decide +kernel
theorem dX5_character_17 : decode cX5_character 17 = .ok (.iconst (-1), 1) := by decide +kernel
theorem dX5_character_18 : decode cX5_character 18 = .ok (.ireturn, 1) := by decide +kernel
set_option maxRecDepth 20000 in
theorem ggX5_isNext_X5_character : GoodIn wsX5_isNext wsX5_character := goodIn_r _ [6, 7, 8, 9, 10, 11, 12, 13, 14, 15, 16, 17, 18, 19, 20, 21] (by decide +kernel) (by decide +kernel)
set_option maxRecDepth 20000 in
theorem gX5_isNext_X5_character : GoodIn wsX5_isNext (wsV RX5 187 RX5 yX5_character wsX5_character) := goodIn_app (goodIn_of _ (by decide +kernel)) ggX5_isNext_X5_character
theorem dX5_isNext_0 : decode cX5_isNext 0 = .ok (.aload_n 0, 1) := by decide +kernel
theorem dX5_isNext_1 : decode cX5_isNext 1 = .ok (.aload_n 0, 1) := by decide +kernel
theorem dX5_isNext_2 : decode cX5_isNext 2 = .ok (.getfield 184, 3) := by decide +kernel
theorem dX5_isNext_5 : decode cX5_isNext 5 = .ok (.invokevirtual 187, 3) := by decide +kernel
theorem dX5_isNext_8 : decode cX5_isNext 8 = .ok (.iload_n 1, 1) := by decide +kernel
theorem dX5_isNext_9 : decode cX5_isNext 9 = .ok (.if_icmp .ne 7, 3) := by decide +kernel
theorem dX5_isNext_12 : decode cX5_isNext 12 = .ok (.iconst 1, 1) := by decide +kernel
theorem dX5_isNext_13 : decode cX5_isNext 13 = .ok (.goto 4, 3) := by decide +kernel
theorem dX5_isNext_16 : decode cX5_isNext 16 = .ok (.iconst 0, 1) := by decide +kernel
theorem dX5_isNext_17 : decode cX5_isNext 17 = .ok (.istore_n 2, 1) := by decide +kernel
theorem dX5_isNext_18 : decode cX5_isNext 18 = .ok (.aload_n 0, 1) := by decide +kernel
theorem dX5_isNext_19 : decode cX5_isNext 19 = .ok (.dup, 1) := by decide +kernel
theorem dX5_isNext_20 : decode cX5_isNext 20 = .ok (.getfield 184, 3) := by decide +kernel
theorem dX5_isNext_23 : decode cX5_isNext 23 = .ok (.iload_n 2, 1) := by decide +kernel
theorem dX5_isNext_24 : decode cX5_isNext 24 = .ok (.ifCond .eq 7, 3) := by decide +kernel
theorem dX5_isNext_27 : decode cX5_isNext 27 = .ok (.iconst 1, 1) := by decide +kernel
theorem dX5_isNext_28 : decode cX5_isNext 28 = .ok (.goto 4, 3) := by decide +kernel
theorem dX5_isNext_31 : decode cX5_isNext 31 = .ok (.iconst 0, 1) := by decide +kernel
theorem dX5_isNext_32 : decode cX5_isNext 32 = .ok (.iadd, 1) := by decide +kernel
theorem dX5_isNext_33 : decode cX5_isNext 33 = .ok (.putfield 184, 3) := by decide +kernel
theorem dX5_isNext_36 : decode cX5_isNext 36 = .ok (.iload_n 2, 1) := by decide +kernel
theorem dX5_isNext_37 : decode cX5_isNext 37 = .ok (.ireturn, 1) := by decide +kernel
set_option maxRecDepth 20000 in
theorem ggX5_takeDigit_X5_character : GoodIn wsX5_takeDigit wsX5_character := goodIn_r _ [6, 7, 8, 12, 13, 14, 15, 16, 17, 18, 19, 20, 21, 22, 23, 24] (by decide +kernel) (by decide +kernel)
set_option maxRecDepth 20000 in
theorem gX5_takeDigit_X5_character : GoodIn wsX5_takeDigit (wsV RX5 187 RX5 yX5_character wsX5_character) := goodIn_app (goodIn_of _ (by decide +kernel)) ggX5_takeDigit_X5_character
set_option maxRecDepth 20000 in
theorem ggX5_takeDigit_X5_within : GoodIn wsX5_takeDigit wsX5_within := goodIn_r _ [11] (by decide +kernel) (by decide +kernel)
set_option maxRecDepth 20000 in
theorem gX5_takeDigit_X5_within : GoodIn wsX5_takeDigit (va_wsS RX5 43 yX5_within wsX5_within) := goodIn_app (goodIn_of _ (by decide +kernel)) ggX5_takeDigit_X5_within
theorem dX5_takeDigit_0 : decode cX5_takeDigit 0 = .ok (.aload_n 0, 1) := by decide +kernel
theorem dX5_takeDigit_1 : decode cX5_takeDigit 1 = .ok (.aload_n 0, 1) := by decide +kernel
theorem dX5_takeDigit_2 : decode cX5_takeDigit 2 = .ok (.getfield 184, 3) := by decide +kernel
theorem dX5_takeDigit_5 : decode cX5_takeDigit 5 = .ok (.invokevirtual 187, 3) := by decide +kernel
theorem dX5_takeDigit_8 : decode cX5_takeDigit 8 = .ok (.bipush 48, 2) := by decide +kernel
theorem dX5_takeDigit_10 : decode cX5_takeDigit 10 = .ok (.isub, 1) := by decide +kernel
theorem dX5_takeDigit_11 : decode cX5_takeDigit 11 = .ok (.istore_n 2, 1) := by decide +kernel
theorem dX5_takeDigit_12 : decode cX5_takeDigit 12 = .ok (.iload_n 2, 1) := by decide +kernel
theorem dX5_takeDigit_13 : decode cX5_takeDigit 13 = .ok (.iconst 0, 1) := by decide +kernel
theorem dX5_takeDigit_14 : decode cX5_takeDigit 14 = .ok (.iload_n 1, 1) := by decide +kernel
theorem dX5_takeDigit_15 : decode cX5_takeDigit 15 = .ok (.invokestatic 43, 3) := by decide +kernel
theorem dX5_takeDigit_18 : decode cX5_takeDigit 18 = .ok (.ifCond .ne 5, 3) := by decide +kernel
theorem dX5_takeDigit_21 : decode cX5_takeDigit 21 = .ok (.iconst (-1), 1) := by decide +kernel
theorem dX5_takeDigit_22 : decode cX5_takeDigit 22 = .ok (.ireturn, 1) := by decide +kernel
theorem dX5_takeDigit_23 : decode cX5_takeDigit 23 = .ok (.aload_n 0, 1) := by decide +kernel
theorem dX5_takeDigit_24 : decode cX5_takeDigit 24 = .ok (.dup, 1) := by decide +kernel
theorem dX5_takeDigit_25 : decode cX5_takeDigit 25 = .ok (.getfield 184, 3) := by decide +kernel
theorem dX5_takeDigit_28 : decode cX5_takeDigit 28 = .ok (.iconst 1, 1) := by decide +kernel
theorem dX5_takeDigit_29 : decode cX5_takeDigit 29 = .ok (.iadd, 1) := by decide +kernel
theorem dX5_takeDigit_30 : decode cX5_takeDigit 30 = .ok (.putfield 184, 3) := by decide +kernel
theorem dX5_takeDigit_33 : decode cX5_takeDigit 33 = .ok (.iload_n 2, 1) := by decide +kernel
theorem dX5_takeDigit_34 : decode cX5_takeDigit 34 = .ok (.ireturn, 1) := by decide +kernel
set_option maxRecDepth 20000 in
theorem ggX5_takesNumber_X5_takeDigit : GoodIn wsX5_takesNumber wsX5_takeDigit := goodIn_r _ [8, 1, 9, 10, 11, 7, 12, 13, 14, 15, 16, 17, 18, 19, 20, 21, 22, 23, 24, 25, 26, 27, 28, 29, 30] (by decide +kernel) (by decide +kernel)
set_option maxRecDepth 20000 in
theorem gX5_takesNumber_X5_takeDigit : GoodIn wsX5_takesNumber (wsV RX5 190 RX5 yX5_takeDigit wsX5_takeDigit) := goodIn_app (goodIn_of _ (by decide +kernel)) ggX5_takesNumber_X5_takeDigit
set_option maxRecDepth 20000 in
theorem ggX5_takesNumber_X5_character : GoodIn wsX5_takesNumber wsX5_character := goodIn_r _ [12, 13, 14, 18, 19, 20, 21, 22, 23, 24, 25, 26, 27, 28, 29, 30] (by decide +kernel) (by decide +kernel)
set_option maxRecDepth 20000 in
theorem gX5_takesNumber_X5_character : GoodIn wsX5_takesNumber (wsV RX5 187 RX5 yX5_character wsX5_character) := goodIn_app (goodIn_of _ (by decide +kernel)) ggX5_takesNumber_X5_character
set_option maxRecDepth 20000 in
theorem ggX5_takesNumber_X5_within : GoodIn wsX5_takesNumber wsX5_within := goodIn_r _ [17] (by decide +kernel) (by decide +kernel)
set_option maxRecDepth 20000 in
theorem gX5_takesNumber_X5_within : GoodIn wsX5_takesNumber (va_wsS RX5 43 yX5_within wsX5_within) := goodIn_app (goodIn_of _ (by decide +kernel)) ggX5_takesNumber_X5_within
theorem dX5_takesNumber_0 : decode cX5_takesNumber 0 = .ok (.aload_n 0, 1) := by decide +kernel
theorem dX5_takesNumber_1 : decode cX5_takesNumber 1 = .ok (.bipush 9, 2) := by decide +kernel
theorem dX5_takesNumber_3 : decode cX5_takesNumber 3 = .ok (.invokevirtual 190, 3) := by decide +kernel
theorem dX5_takesNumber_6 : decode cX5_takesNumber 6 = .ok (.istore_n 1, 1) := by decide +kernel
theorem dX5_takesNumber_7 : decode cX5_takesNumber 7 = .ok (.iload_n 1, 1) := by decide +kernel
theorem dX5_takesNumber_8 : decode cX5_takesNumber 8 = .ok (.ifCond .le 43, 3) := by decide +kernel
theorem dX5_takesNumber_11 : decode cX5_takesNumber 11 = .ok (.iload_n 1, 1) := by decide +kernel
theorem dX5_takesNumber_12 : decode cX5_takesNumber 12 = .ok (.sipush 10000, 3) := by decide +kernel
theorem dX5_takesNumber_15 : decode cX5_takesNumber 15 = .ok (.if_icmp .ge 36, 3) := by decide +kernel
theorem dX5_takesNumber_18 : decode cX5_takesNumber 18 = .ok (.aload_n 0, 1) := by decide +kernel
theorem dX5_takesNumber_19 : decode cX5_takesNumber 19 = .ok (.aload_n 0, 1) := by decide +kernel
theorem dX5_takesNumber_20 : decode cX5_takesNumber 20 = .ok (.getfield 184, 3) := by decide +kernel
theorem dX5_takesNumber_23 : decode cX5_takesNumber 23 = .ok (.invokevirtual 187, 3) := by decide +kernel
theorem dX5_takesNumber_26 : decode cX5_takesNumber 26 = .ok (.bipush 48, 2) := by decide +kernel
theorem dX5_takesNumber_28 : decode cX5_takesNumber 28 = .ok (.bipush 57, 2) := by decide +kernel
theorem dX5_takesNumber_30 : decode cX5_takesNumber 30 = .ok (.invokestatic 43, 3) := by decide +kernel
theorem dX5_takesNumber_33 : decode cX5_takesNumber 33 = .ok (.ifCond .eq 18, 3) := by decide +kernel
theorem dX5_takesNumber_36 : decode cX5_takesNumber 36 = .ok (.bipush 10, 2) := by decide +kernel
theorem dX5_takesNumber_38 : decode cX5_takesNumber 38 = .ok (.iload_n 1, 1) := by decide +kernel
theorem dX5_takesNumber_39 : decode cX5_takesNumber 39 = .ok (.imul, 1) := by decide +kernel
theorem dX5_takesNumber_40 : decode cX5_takesNumber 40 = .ok (.aload_n 0, 1) := by decide +kernel
theorem dX5_takesNumber_41 : decode cX5_takesNumber 41 = .ok (.bipush 9, 2) := by decide +kernel
theorem dX5_takesNumber_43 : decode cX5_takesNumber 43 = .ok (.invokevirtual 190, 3) := by decide +kernel
theorem dX5_takesNumber_46 : decode cX5_takesNumber 46 = .ok (.iadd, 1) := by decide +kernel
theorem dX5_takesNumber_47 : decode cX5_takesNumber 47 = .ok (.istore_n 1, 1) := by decide +kernel
theorem dX5_takesNumber_48 : decode cX5_takesNumber 48 = .ok (.goto (-41), 3) := by decide +kernel
theorem dX5_takesNumber_51 : decode cX5_takesNumber 51 = .ok (.aload_n 0, 1) := by decide +kernel
theorem dX5_takesNumber_52 : decode cX5_takesNumber 52 = .ok (.getfield 28, 3) := by decide +kernel
theorem dX5_takesNumber_55 : decode cX5_takesNumber 55 = .ok (.aload_n 0, 1) := by decide +kernel
theorem dX5_takesNumber_56 : decode cX5_takesNumber 56 = .ok (.getfield 193, 3) := by decide +kernel
theorem dX5_takesNumber_59 : decode cX5_takesNumber 59 = .ok (.iload_n 1, 1) := by decide +kernel
theorem dX5_takesNumber_60 : decode cX5_takesNumber 60 = .ok (.iastore, 1) := by decide +kernel
theorem dX5_takesNumber_61 : decode cX5_takesNumber 61 = .ok (.aload_n 0, 1) := by decide +kernel
theorem dX5_takesNumber_62 : decode cX5_takesNumber 62 = .ok (.dup, 1) := by decide +kernel
theorem dX5_takesNumber_63 : decode cX5_takesNumber 63 = .ok (.getfield 193, 3) := by decide +kernel
theorem dX5_takesNumber_66 : decode cX5_takesNumber 66 = .ok (.iconst 1, 1) := by decide +kernel
theorem dX5_takesNumber_67 : decode cX5_takesNumber 67 = .ok (.iadd, 1) := by decide +kernel
theorem dX5_takesNumber_68 : decode cX5_takesNumber 68 = .ok (.putfield 193, 3) := by decide +kernel
theorem dX5_takesNumber_71 : decode cX5_takesNumber 71 = .ok (.iload_n 1, 1) := by decide +kernel
theorem dX5_takesNumber_72 : decode cX5_takesNumber 72 = .ok (.ifCond .lt 7, 3) := by decide +kernel
theorem dX5_takesNumber_75 : decode cX5_takesNumber 75 = .ok (.iconst 1, 1) := by decide +kernel
theorem dX5_takesNumber_76 : decode cX5_takesNumber 76 = .ok (.goto 4, 3) := by decide +kernel
theorem dX5_takesNumber_79 : decode cX5_takesNumber 79 = .ok (.iconst 0, 1) := by decide +kernel
theorem dX5_takesNumber_80 : decode cX5_takesNumber 80 = .ok (.ireturn, 1) := by decide +kernel
set_option maxRecDepth 20000 in
theorem ggX5_readsRest_X5_takesNumber : GoodIn wsX5_readsRest wsX5_takesNumber := goodIn_r _ [8, 3, 2, 9, 10, 11, 12, 7, 13, 14, 15, 16, 17, 18, 19, 20, 21, 22, 27, 28, 29, 30, 31, 32, 33, 34, 35, 36, 37, 38, 39] (by decide +kernel) (by decide +kernel)
set_option maxRecDepth 20000 in
theorem gX5_readsRest_X5_takesNumber : GoodIn wsX5_readsRest (wsV RX5 199 RX5 yX5_takesNumber wsX5_takesNumber) := goodIn_app (goodIn_of _ (by decide +kernel)) ggX5_readsRest_X5_takesNumber
set_option maxRecDepth 20000 in
theorem ggX5_readsRest_X5_isNext : GoodIn wsX5_readsRest wsX5_isNext := goodIn_r _ [26, 3, 14, 15, 16, 7, 17, 18, 19, 27, 28, 29, 30, 31, 32, 33, 34, 35, 36, 37, 38, 39] (by decide +kernel) (by decide +kernel)
set_option maxRecDepth 20000 in
theorem gX5_readsRest_X5_isNext : GoodIn wsX5_readsRest (wsV RX5 203 RX5 yX5_isNext wsX5_isNext) := goodIn_app (goodIn_of _ (by decide +kernel)) ggX5_readsRest_X5_isNext
set_option maxRecDepth 20000 in
theorem ggX5_readsRest_X5_takeDigit : GoodIn wsX5_readsRest wsX5_takeDigit := goodIn_r _ [13, 3, 14, 15, 16, 7, 17, 18, 19, 20, 21, 22, 27, 28, 29, 30, 31, 32, 33, 34, 35, 36, 37, 38, 39] (by decide +kernel) (by decide +kernel)
set_option maxRecDepth 20000 in
theorem gX5_readsRest_X5_takeDigit : GoodIn wsX5_readsRest (wsV RX5 190 RX5 yX5_takeDigit wsX5_takeDigit) := goodIn_app (goodIn_of _ (by decide +kernel)) ggX5_readsRest_X5_takeDigit
theorem dX5_readsRest_0 : decode cX5_readsRest 0 = .ok (.aload_n 0, 1) := by decide +kernel
theorem dX5_readsRest_1 : decode cX5_readsRest 1 = .ok (.getfield 196, 3) := by decide +kernel
theorem dX5_readsRest_4 : decode cX5_readsRest 4 = .ok (.lookupswitch 137 #[(33, 135), (38, 80), (42, 106), (47, 135), (58, 52)], 52) := by decide +kernel
theorem dX5_readsRest_56 : decode cX5_readsRest 56 = .ok (.aload_n 0, 1) := by decide +kernel
theorem dX5_readsRest_57 : decode cX5_readsRest 57 = .ok (.invokevirtual 199, 3) := by decide +kernel
theorem dX5_readsRest_60 : decode cX5_readsRest 60 = .ok (.istore_n 1, 1) := by decide +kernel
theorem dX5_readsRest_61 : decode cX5_readsRest 61 = .ok (.iload_n 1, 1) := by decide +kernel
theorem dX5_readsRest_62 : decode cX5_readsRest 62 = .ok (.ifCond .eq 20, 3) := by decide +kernel
theorem dX5_readsRest_65 : decode cX5_readsRest 65 = .ok (.aload_n 0, 1) := by decide +kernel
theorem dX5_readsRest_66 : decode cX5_readsRest 66 = .ok (.bipush 44, 2) := by decide +kernel
theorem dX5_readsRest_68 : decode cX5_readsRest 68 = .ok (.invokevirtual 203, 3) := by decide +kernel
theorem dX5_readsRest_71 : decode cX5_readsRest 71 = .ok (.ifCond .eq 11, 3) := by decide +kernel
theorem dX5_readsRest_74 : decode cX5_readsRest 74 = .ok (.aload_n 0, 1) := by decide +kernel
theorem dX5_readsRest_75 : decode cX5_readsRest 75 = .ok (.invokevirtual 199, 3) := by decide +kernel
theorem dX5_readsRest_78 : decode cX5_readsRest 78 = .ok (.istore_n 1, 1) := by decide +kernel
theorem dX5_readsRest_79 : decode cX5_readsRest 79 = .ok (.goto (-18), 3) := by decide +kernel
theorem dX5_readsRest_82 : decode cX5_readsRest 82 = .ok (.iload_n 1, 1) := by decide +kernel
theorem dX5_readsRest_83 : decode cX5_readsRest 83 = .ok (.ireturn, 1) := by decide +kernel
theorem dX5_readsRest_84 : decode cX5_readsRest 84 = .ok (.aload_n 0, 1) := by decide +kernel
theorem dX5_readsRest_85 : decode cX5_readsRest 85 = .ok (.getfield 28, 3) := by decide +kernel
theorem dX5_readsRest_88 : decode cX5_readsRest 88 = .ok (.iconst 0, 1) := by decide +kernel
theorem dX5_readsRest_89 : decode cX5_readsRest 89 = .ok (.aload_n 0, 1) := by decide +kernel
theorem dX5_readsRest_90 : decode cX5_readsRest 90 = .ok (.iconst 5, 1) := by decide +kernel
theorem dX5_readsRest_91 : decode cX5_readsRest 91 = .ok (.invokevirtual 190, 3) := by decide +kernel
theorem dX5_readsRest_94 : decode cX5_readsRest 94 = .ok (.iastore, 1) := by decide +kernel
theorem dX5_readsRest_95 : decode cX5_readsRest 95 = .ok (.aload_n 0, 1) := by decide +kernel
theorem dX5_readsRest_96 : decode cX5_readsRest 96 = .ok (.getfield 28, 3) := by decide +kernel
theorem dX5_readsRest_99 : decode cX5_readsRest 99 = .ok (.iconst 0, 1) := by decide +kernel
theorem dX5_readsRest_100 : decode cX5_readsRest 100 = .ok (.iaload, 1) := by decide +kernel
theorem dX5_readsRest_101 : decode cX5_readsRest 101 = .ok (.ifCond .lt 7, 3) := by decide +kernel
theorem dX5_readsRest_104 : decode cX5_readsRest 104 = .ok (.iconst 1, 1) := by decide +kernel
theorem dX5_readsRest_105 : decode cX5_readsRest 105 = .ok (.goto 4, 3) := by decide +kernel
theorem dX5_readsRest_108 : decode cX5_readsRest 108 = .ok (.iconst 0, 1) := by decide +kernel
theorem dX5_readsRest_109 : decode cX5_readsRest 109 = .ok (.ireturn, 1) := by decide +kernel
theorem dX5_readsRest_110 : decode cX5_readsRest 110 = .ok (.aload_n 0, 1) := by decide +kernel
theorem dX5_readsRest_111 : decode cX5_readsRest 111 = .ok (.invokevirtual 199, 3) := by decide +kernel
theorem dX5_readsRest_114 : decode cX5_readsRest 114 = .ok (.ifCond .eq 23, 3) := by decide +kernel
theorem dX5_readsRest_117 : decode cX5_readsRest 117 = .ok (.aload_n 0, 1) := by decide +kernel
theorem dX5_readsRest_118 : decode cX5_readsRest 118 = .ok (.bipush 43, 2) := by decide +kernel
theorem dX5_readsRest_120 : decode cX5_readsRest 120 = .ok (.invokevirtual 203, 3) := by decide +kernel
theorem dX5_readsRest_123 : decode cX5_readsRest 123 = .ok (.ifCond .eq 14, 3) := by decide +kernel
theorem dX5_readsRest_126 : decode cX5_readsRest 126 = .ok (.aload_n 0, 1) := by decide +kernel
theorem dX5_readsRest_127 : decode cX5_readsRest 127 = .ok (.invokevirtual 199, 3) := by decide +kernel
theorem dX5_readsRest_130 : decode cX5_readsRest 130 = .ok (.ifCond .eq 7, 3) := by decide +kernel
theorem dX5_readsRest_133 : decode cX5_readsRest 133 = .ok (.iconst 1, 1) := by decide +kernel
theorem dX5_readsRest_134 : decode cX5_readsRest 134 = .ok (.goto 4, 3) := by decide +kernel
theorem dX5_readsRest_137 : decode cX5_readsRest 137 = .ok (.iconst 0, 1) := by decide +kernel
theorem dX5_readsRest_138 : decode cX5_readsRest 138 = .ok (.ireturn, 1) := by decide +kernel
theorem dX5_readsRest_139 : decode cX5_readsRest 139 = .ok (.iconst 1, 1) := by decide +kernel
theorem dX5_readsRest_140 : decode cX5_readsRest 140 = .ok (.ireturn, 1) := by decide +kernel
theorem dX5_readsRest_141 : decode cX5_readsRest 141 = .ok (.aload_n 0, 1) := by decide +kernel
theorem dX5_readsRest_142 : decode cX5_readsRest 142 = .ok (.dup, 1) := by decide +kernel
theorem dX5_readsRest_143 : decode cX5_readsRest 143 = .ok (.getfield 184, 3) := by decide +kernel
theorem dX5_readsRest_146 : decode cX5_readsRest 146 = .ok (.iconst 1, 1) := by decide +kernel
theorem dX5_readsRest_147 : decode cX5_readsRest 147 = .ok (.isub, 1) := by decide +kernel
theorem dX5_readsRest_148 : decode cX5_readsRest 148 = .ok (.putfield 184, 3) := by decide +kernel
theorem dX5_readsRest_151 : decode cX5_readsRest 151 = .ok (.iconst 0, 1) := by decide +kernel
theorem dX5_readsRest_152 : decode cX5_readsRest 152 = .ok (.ireturn, 1) := by decide +kernel
set_option maxRecDepth 20000 in
theorem ggX5_readsOrder_X5_takeDigit : GoodIn wsX5_readsOrder wsX5_takeDigit := goodIn_r _ [9, 3, 10, 11, 12, 8, 13, 14, 15, 16, 17, 18, 32, 33, 34, 35, 36, 37, 38, 39, 40, 41, 42, 43, 44] (by decide +kernel) (by decide +kernel)
set_option maxRecDepth 20000 in
theorem gX5_readsOrder_X5_takeDigit : GoodIn wsX5_readsOrder (wsV RX5 190 RX5 yX5_takeDigit wsX5_takeDigit) := goodIn_app (goodIn_of _ (by decide +kernel)) ggX5_readsOrder_X5_takeDigit
set_option maxRecDepth 20000 in
theorem ggX5_readsOrder_X5_character : GoodIn wsX5_readsOrder wsX5_character := goodIn_r _ [13, 14, 15, 32, 33, 34, 35, 36, 37, 38, 39, 40, 41, 42, 43, 44] (by decide +kernel) (by decide +kernel)
set_option maxRecDepth 20000 in
theorem gX5_readsOrder_X5_character : GoodIn wsX5_readsOrder (wsV RX5 187 RX5 yX5_character wsX5_character) := goodIn_app (goodIn_of _ (by decide +kernel)) ggX5_readsOrder_X5_character
set_option maxRecDepth 20000 in
theorem ggX5_readsOrder_X5_readsRest : GoodIn wsX5_readsOrder wsX5_readsRest := goodIn_r _ [22, 4, 23, 3, 24, 25, 26, 8, 27, 1, 5, 6, 7, 9, 10, 11, 12, 13, 14, 15, 16, 17, 18, 28, 29, 30, 31, 32, 33, 34, 35, 36, 37, 38, 39, 40, 41, 42, 43, 44] (by decide +kernel) (by decide +kernel)
set_option maxRecDepth 20000 in
theorem gX5_readsOrder_X5_readsRest : GoodIn wsX5_readsOrder (wsV RX5 209 RX5 yX5_readsRest wsX5_readsRest) := goodIn_app (goodIn_of _ (by decide +kernel)) ggX5_readsOrder_X5_readsRest
theorem dX5_readsOrder_0 : decode cX5_readsOrder 0 = .ok (.aload_n 0, 1) := by decide +kernel
theorem dX5_readsOrder_1 : decode cX5_readsOrder 1 = .ok (.iconst 0, 1) := by decide +kernel
theorem dX5_readsOrder_2 : decode cX5_readsOrder 2 = .ok (.putfield 193, 3) := by decide +kernel
theorem dX5_readsOrder_5 : decode cX5_readsOrder 5 = .ok (.aload_n 0, 1) := by decide +kernel
theorem dX5_readsOrder_6 : decode cX5_readsOrder 6 = .ok (.aload_n 0, 1) := by decide +kernel
theorem dX5_readsOrder_7 : decode cX5_readsOrder 7 = .ok (.iconst 5, 1) := by decide +kernel
theorem dX5_readsOrder_8 : decode cX5_readsOrder 8 = .ok (.invokevirtual 190, 3) := by decide +kernel
theorem dX5_readsOrder_11 : decode cX5_readsOrder 11 = .ok (.putfield 206, 3) := by decide +kernel
theorem dX5_readsOrder_14 : decode cX5_readsOrder 14 = .ok (.aload_n 0, 1) := by decide +kernel
theorem dX5_readsOrder_15 : decode cX5_readsOrder 15 = .ok (.getfield 206, 3) := by decide +kernel
theorem dX5_readsOrder_18 : decode cX5_readsOrder 18 = .ok (.ifCond .ge 5, 3) := by decide +kernel
theorem dX5_readsOrder_21 : decode cX5_readsOrder 21 = .ok (.iconst 0, 1) := by decide +kernel
theorem dX5_readsOrder_22 : decode cX5_readsOrder 22 = .ok (.ireturn, 1) := by decide +kernel
theorem dX5_readsOrder_23 : decode cX5_readsOrder 23 = .ok (.aload_n 0, 1) := by decide +kernel
theorem dX5_readsOrder_24 : decode cX5_readsOrder 24 = .ok (.aload_n 0, 1) := by decide +kernel
theorem dX5_readsOrder_25 : decode cX5_readsOrder 25 = .ok (.aload_n 0, 1) := by decide +kernel
theorem dX5_readsOrder_26 : decode cX5_readsOrder 26 = .ok (.getfield 184, 3) := by decide +kernel
theorem dX5_readsOrder_29 : decode cX5_readsOrder 29 = .ok (.invokevirtual 187, 3) := by decide +kernel
theorem dX5_readsOrder_32 : decode cX5_readsOrder 32 = .ok (.putfield 196, 3) := by decide +kernel
theorem dX5_readsOrder_35 : decode cX5_readsOrder 35 = .ok (.aload_n 0, 1) := by decide +kernel
theorem dX5_readsOrder_36 : decode cX5_readsOrder 36 = .ok (.dup, 1) := by decide +kernel
theorem dX5_readsOrder_37 : decode cX5_readsOrder 37 = .ok (.getfield 184, 3) := by decide +kernel
theorem dX5_readsOrder_40 : decode cX5_readsOrder 40 = .ok (.iconst 1, 1) := by decide +kernel
theorem dX5_readsOrder_41 : decode cX5_readsOrder 41 = .ok (.iadd, 1) := by decide +kernel
theorem dX5_readsOrder_42 : decode cX5_readsOrder 42 = .ok (.putfield 184, 3) := by decide +kernel
theorem dX5_readsOrder_45 : decode cX5_readsOrder 45 = .ok (.aload_n 0, 1) := by decide +kernel
theorem dX5_readsOrder_46 : decode cX5_readsOrder 46 = .ok (.invokevirtual 209, 3) := by decide +kernel
theorem dX5_readsOrder_49 : decode cX5_readsOrder 49 = .ok (.ireturn, 1) := by decide +kernel
set_option maxRecDepth 20000 in
theorem ggX5_findFault_X5_readsOrder : GoodIn wsX5_findFault wsX5_readsOrder := goodIn_r _ [7, 8, 9, 1, 10, 11, 12, 13, 6, 14, 15, 16, 17, 18, 2, 19, 20, 21, 22, 23, 24, 25, 26, 27, 28, 29, 30, 31, 32, 33, 34, 35, 36, 37, 38, 39, 40, 41, 42, 43, 44, 45, 46, 47, 48] (by decide +kernel) (by decide +kernel)
set_option maxRecDepth 20000 in
theorem gX5_findFault_X5_readsOrder : GoodIn wsX5_findFault (wsV RX5 212 RX5 yX5_readsOrder wsX5_readsOrder) := goodIn_app (goodIn_of _ (by decide +kernel)) ggX5_findFault_X5_readsOrder
set_option maxRecDepth 20000 in
theorem ggX5_findFault_X5_isNext : GoodIn wsX5_findFault wsX5_isNext := goodIn_r _ [35, 1, 15, 16, 17, 6, 18, 2, 19, 36, 37, 38, 39, 40, 41, 42, 43, 44, 45, 46, 47, 48] (by decide +kernel) (by decide +kernel)
set_option maxRecDepth 20000 in
theorem gX5_findFault_X5_isNext : GoodIn wsX5_findFault (wsV RX5 203 RX5 yX5_isNext wsX5_isNext) := goodIn_app (goodIn_of _ (by decide +kernel)) ggX5_findFault_X5_isNext
theorem dX5_findFault_0 : decode cX5_findFault 0 = .ok (.aload_n 0, 1) := by decide +kernel
theorem dX5_findFault_1 : decode cX5_findFault 1 = .ok (.iconst 0, 1) := by decide +kernel
theorem dX5_findFault_2 : decode cX5_findFault 2 = .ok (.putfield 184, 3) := by decide +kernel
theorem dX5_findFault_5 : decode cX5_findFault 5 = .ok (.aload_n 0, 1) := by decide +kernel
theorem dX5_findFault_6 : decode cX5_findFault 6 = .ok (.invokevirtual 212, 3) := by decide +kernel
theorem dX5_findFault_9 : decode cX5_findFault 9 = .ok (.ifCond .ne 8, 3) := by decide +kernel
theorem dX5_findFault_12 : decode cX5_findFault 12 = .ok (.aload_n 0, 1) := by decide +kernel
theorem dX5_findFault_13 : decode cX5_findFault 13 = .ok (.getfield 184, 3) := by decide +kernel
theorem dX5_findFault_16 : decode cX5_findFault 16 = .ok (.ireturn, 1) := by decide +kernel
theorem dX5_findFault_17 : decode cX5_findFault 17 = .ok (.aload_n 0, 1) := by decide +kernel
theorem dX5_findFault_18 : decode cX5_findFault 18 = .ok (.getfield 184, 3) := by decide +kernel
theorem dX5_findFault_21 : decode cX5_findFault 21 = .ok (.aload_n 0, 1) := by decide +kernel
theorem dX5_findFault_22 : decode cX5_findFault 22 = .ok (.getfield 173, 3) := by decide +kernel
theorem dX5_findFault_25 : decode cX5_findFault 25 = .ok (.if_icmp .ne 6, 3) := by decide +kernel
theorem dX5_findFault_28 : decode cX5_findFault 28 = .ok (.bipush (-6), 2) := by decide +kernel
theorem dX5_findFault_30 : decode cX5_findFault 30 = .ok (.ireturn, 1) := by decide +kernel
theorem dX5_findFault_31 : decode cX5_findFault 31 = .ok (.aload_n 0, 1) := by decide +kernel
theorem dX5_findFault_32 : decode cX5_findFault 32 = .ok (.bipush 59, 2) := by decide +kernel
theorem dX5_findFault_34 : decode cX5_findFault 34 = .ok (.invokevirtual 203, 3) := by decide +kernel
theorem dX5_findFault_37 : decode cX5_findFault 37 = .ok (.ifCond .ne (-32), 3) := by decide +kernel
theorem dX5_findFault_40 : decode cX5_findFault 40 = .ok (.aload_n 0, 1) := by decide +kernel
theorem dX5_findFault_41 : decode cX5_findFault 41 = .ok (.getfield 184, 3) := by decide +kernel
theorem dX5_findFault_44 : decode cX5_findFault 44 = .ok (.ireturn, 1) := by decide +kernel
set_option maxRecDepth 20000 in
theorem ggX5_fault_X5_findFault : GoodIn wsX5_fault wsX5_findFault := goodIn_r _ [5, 6, 7, 8, 9, 10, 4, 11, 12, 13, 14, 15, 16, 17, 18, 19, 20, 21, 22, 23, 24, 25, 26, 27, 28, 29, 30, 31, 32, 33, 34, 35, 36, 37, 38, 39, 40, 41, 42, 43, 44, 45, 46, 47, 48, 49, 50, 51, 52] (by decide +kernel) (by decide +kernel)
set_option maxRecDepth 20000 in
theorem gX5_fault_X5_findFault : GoodIn wsX5_fault (wsV RX5 215 RX5 yX5_findFault wsX5_findFault) := goodIn_app (goodIn_of _ (by decide +kernel)) ggX5_fault_X5_findFault
theorem dX5_fault_0 : decode cX5_fault 0 = .ok (.aload_n 0, 1) := by decide +kernel
theorem dX5_fault_1 : decode cX5_fault 1 = .ok (.invokevirtual 215, 3) := by decide +kernel
theorem dX5_fault_4 : decode cX5_fault 4 = .ok (.ireturn, 1) := by decide +kernel
set_option maxRecDepth 20000 in
theorem ggX5_canDo_X5_whyNotJoined : GoodIn wsX5_canDo wsX5_whyNotJoined := goodIn_r _ [8, 9, 10, 7, 11, 12, 13, 14, 15, 16, 17, 18, 19, 32, 33, 34, 35, 36, 37, 38, 39, 40, 41, 42, 43, 44] (by decide +kernel) (by decide +kernel)
set_option maxRecDepth 20000 in
theorem gX5_canDo_X5_whyNotJoined : GoodIn wsX5_canDo (wsV RX5 141 RX5 yX5_whyNotJoined wsX5_whyNotJoined) := goodIn_app (goodIn_of _ (by decide +kernel)) ggX5_canDo_X5_whyNotJoined
set_option maxRecDepth 20000 in
theorem ggX5_canDo_X5_isRange : GoodIn wsX5_canDo wsX5_isRange := goodIn_r _ [22, 23, 24, 25, 7, 26, 27, 12, 13, 14] (by decide +kernel) (by decide +kernel)
set_option maxRecDepth 20000 in
theorem gX5_canDo_X5_isRange : GoodIn wsX5_canDo (va_wsS RX5 134 yX5_isRange wsX5_isRange) := goodIn_app (goodIn_of _ (by decide +kernel)) ggX5_canDo_X5_isRange
set_option maxRecDepth 20000 in
theorem ggX5_canDo_X5_whyNotFolded : GoodIn wsX5_canDo wsX5_whyNotFolded := goodIn_r _ [31, 9, 10, 7, 11, 12, 13, 14, 15, 16, 17, 18, 19, 32, 33, 34, 35, 36, 37, 38, 39, 40, 41, 42, 43, 44] (by decide +kernel) (by decide +kernel)
set_option maxRecDepth 20000 in
theorem gX5_canDo_X5_whyNotFolded : GoodIn wsX5_canDo (wsV RX5 147 RX5 yX5_whyNotFolded wsX5_whyNotFolded) := goodIn_app (goodIn_of _ (by decide +kernel)) ggX5_canDo_X5_whyNotFolded
theorem dX5_canDo_0 : decode cX5_canDo 0 = .ok (.aload_n 0, 1) := by decide +kernel
theorem dX5_canDo_1 : decode cX5_canDo 1 = .ok (.getfield 196, 3) := by decide +kernel
theorem dX5_canDo_4 : decode cX5_canDo 4 = .ok (.lookupswitch 92 #[(38, 36), (42, 59), (47, 75)], 36) := by decide +kernel
theorem dX5_canDo_40 : decode cX5_canDo 40 = .ok (.aload_n 0, 1) := by decide +kernel
theorem dX5_canDo_41 : decode cX5_canDo 41 = .ok (.aload_n 0, 1) := by decide +kernel
theorem dX5_canDo_42 : decode cX5_canDo 42 = .ok (.getfield 206, 3) := by decide +kernel
theorem dX5_canDo_45 : decode cX5_canDo 45 = .ok (.aload_n 0, 1) := by decide +kernel
theorem dX5_canDo_46 : decode cX5_canDo 46 = .ok (.getfield 28, 3) := by decide +kernel
theorem dX5_canDo_49 : decode cX5_canDo 49 = .ok (.iconst 0, 1) := by decide +kernel
theorem dX5_canDo_50 : decode cX5_canDo 50 = .ok (.iaload, 1) := by decide +kernel
theorem dX5_canDo_51 : decode cX5_canDo 51 = .ok (.invokevirtual 141, 3) := by decide +kernel
theorem dX5_canDo_54 : decode cX5_canDo 54 = .ok (.ifCond .ne 7, 3) := by decide +kernel
theorem dX5_canDo_57 : decode cX5_canDo 57 = .ok (.iconst 1, 1) := by decide +kernel
theorem dX5_canDo_58 : decode cX5_canDo 58 = .ok (.goto 4, 3) := by decide +kernel
theorem dX5_canDo_61 : decode cX5_canDo 61 = .ok (.iconst 0, 1) := by decide +kernel
theorem dX5_canDo_62 : decode cX5_canDo 62 = .ok (.ireturn, 1) := by decide +kernel
theorem dX5_canDo_63 : decode cX5_canDo 63 = .ok (.aload_n 0, 1) := by decide +kernel
theorem dX5_canDo_64 : decode cX5_canDo 64 = .ok (.getfield 28, 3) := by decide +kernel
theorem dX5_canDo_67 : decode cX5_canDo 67 = .ok (.iconst 0, 1) := by decide +kernel
theorem dX5_canDo_68 : decode cX5_canDo 68 = .ok (.iaload, 1) := by decide +kernel
theorem dX5_canDo_69 : decode cX5_canDo 69 = .ok (.aload_n 0, 1) := by decide +kernel
theorem dX5_canDo_70 : decode cX5_canDo 70 = .ok (.getfield 28, 3) := by decide +kernel
theorem dX5_canDo_73 : decode cX5_canDo 73 = .ok (.iconst 1, 1) := by decide +kernel
theorem dX5_canDo_74 : decode cX5_canDo 74 = .ok (.iaload, 1) := by decide +kernel
theorem dX5_canDo_75 : decode cX5_canDo 75 = .ok (.invokestatic 134, 3) := by decide +kernel
theorem dX5_canDo_78 : decode cX5_canDo 78 = .ok (.ireturn, 1) := by decide +kernel
theorem dX5_canDo_79 : decode cX5_canDo 79 = .ok (.aload_n 0, 1) := by decide +kernel
theorem dX5_canDo_80 : decode cX5_canDo 80 = .ok (.aload_n 0, 1) := by decide +kernel
theorem dX5_canDo_81 : decode cX5_canDo 81 = .ok (.getfield 206, 3) := by decide +kernel
theorem dX5_canDo_84 : decode cX5_canDo 84 = .ok (.invokevirtual 147, 3) := by decide +kernel
theorem dX5_canDo_87 : decode cX5_canDo 87 = .ok (.ifCond .ne 7, 3) := by decide +kernel
theorem dX5_canDo_90 : decode cX5_canDo 90 = .ok (.iconst 1, 1) := by decide +kernel
theorem dX5_canDo_91 : decode cX5_canDo 91 = .ok (.goto 4, 3) := by decide +kernel
theorem dX5_canDo_94 : decode cX5_canDo 94 = .ok (.iconst 0, 1) := by decide +kernel
theorem dX5_canDo_95 : decode cX5_canDo 95 = .ok (.ireturn, 1) := by decide +kernel
theorem dX5_canDo_96 : decode cX5_canDo 96 = .ok (.iconst 1, 1) := by decide +kernel
theorem dX5_canDo_97 : decode cX5_canDo 97 = .ok (.ireturn, 1) := by decide +kernel
set_option maxRecDepth 20000 in
theorem ggX5_does_X5_adds : GoodIn wsX5_does wsX5_adds := goodIn_r _ [9, 10, 11, 12, 8, 13, 14, 15, 16, 17, 18, 19, 20, 21, 22, 23, 24, 25, 26, 27, 28, 29, 30, 31, 32, 33, 34, 35, 36, 37, 38, 39, 40, 41, 42, 43, 44, 45, 46, 47, 48, 49, 50, 51, 52, 53, 54, 55, 56, 57, 58, 107, 108, 109, 110, 111, 112, 113, 114, 115, 116, 117, 118, 119] (by decide +kernel) (by decide +kernel)
set_option maxRecDepth 20000 in
theorem gX5_does_X5_adds : GoodIn wsX5_does (wsV RX5 130 RX5 yX5_adds wsX5_adds) := goodIn_app (goodIn_of _ (by decide +kernel)) ggX5_does_X5_adds
set_option maxRecDepth 20000 in
theorem ggX5_does_X5_joins : GoodIn wsX5_does wsX5_joins := goodIn_r _ [62, 35, 36, 37, 8, 38, 24, 25, 26, 27, 18, 39, 40, 41, 42, 47, 48, 49, 50, 55, 56, 57, 58, 43, 44, 45, 46, 51, 52, 53, 54, 63, 64, 65, 66, 67, 68, 69, 70, 71, 72, 73, 74, 75, 76, 77, 78, 79, 23, 80, 81, 82, 83, 84, 85, 86, 87, 88, 89, 90, 107, 108, 109, 110, 111, 112, 113, 114, 115, 116, 117, 118, 119] (by decide +kernel) (by decide +kernel)
set_option maxRecDepth 20000 in
theorem gX5_does_X5_joins : GoodIn wsX5_does (wsV RX5 144 RX5 yX5_joins wsX5_joins) := goodIn_app (goodIn_of _ (by decide +kernel)) ggX5_does_X5_joins
set_option maxRecDepth 20000 in
theorem ggX5_does_X5_addsRange : GoodIn wsX5_does wsX5_addsRange := goodIn_r _ [94, 5, 6, 7, 8, 9, 10, 11, 12, 13, 14, 15, 16, 17, 18, 19, 20, 21, 22, 23, 24, 25, 26, 27, 28, 29, 30, 31, 32, 33, 34, 35, 36, 37, 38, 39, 40, 41, 42, 43, 44, 45, 46, 47, 48, 49, 50, 51, 52, 53, 54, 55, 56, 57, 58, 107, 108, 109, 110, 111, 112, 113, 114, 115, 116, 117, 118, 119] (by decide +kernel) (by decide +kernel)
set_option maxRecDepth 20000 in
theorem gX5_does_X5_addsRange : GoodIn wsX5_does (wsV RX5 137 RX5 yX5_addsRange wsX5_addsRange) := goodIn_app (goodIn_of _ (by decide +kernel)) ggX5_does_X5_addsRange
set_option maxRecDepth 20000 in
theorem ggX5_does_X5_folds : GoodIn wsX5_does wsX5_folds := goodIn_r _ [98, 35, 36, 37, 8, 38, 24, 25, 26, 27, 18, 39, 40, 41, 42, 107, 108, 109, 110, 111, 112, 113, 114, 115, 116, 117, 118, 119] (by decide +kernel) (by decide +kernel)
set_option maxRecDepth 20000 in
theorem gX5_does_X5_folds : GoodIn wsX5_does (wsV RX5 150 RX5 yX5_folds wsX5_folds) := goodIn_app (goodIn_of _ (by decide +kernel)) ggX5_does_X5_folds
set_option maxRecDepth 20000 in
theorem ggX5_does_X5_empties : GoodIn wsX5_does wsX5_empties := goodIn_r _ [102, 103, 104, 105, 8, 106, 35, 36, 37, 38, 24, 25, 26, 27, 18, 39, 40, 41, 42, 107, 108, 109, 110, 111, 112, 113, 114, 115, 116, 117, 118, 119] (by decide +kernel) (by decide +kernel)
set_option maxRecDepth 20000 in
theorem gX5_does_X5_empties : GoodIn wsX5_does (wsV RX5 121 RX5 yX5_empties wsX5_empties) := goodIn_app (goodIn_of _ (by decide +kernel)) ggX5_does_X5_empties
theorem dX5_does_0 : decode cX5_does 0 = .ok (.aload_n 0, 1) := by decide +kernel
theorem dX5_does_1 : decode cX5_does 1 = .ok (.getfield 196, 3) := by decide +kernel
theorem dX5_does_4 : decode cX5_does 4 = .ok (.lookupswitch 132 #[(38, 78), (42, 96), (47, 120), (58, 44)], 44) := by decide +kernel
theorem dX5_does_48 : decode cX5_does 48 = .ok (.iconst 0, 1) := by decide +kernel
theorem dX5_does_49 : decode cX5_does 49 = .ok (.istore_n 1, 1) := by decide +kernel
theorem dX5_does_50 : decode cX5_does 50 = .ok (.iload_n 1, 1) := by decide +kernel
theorem dX5_does_51 : decode cX5_does 51 = .ok (.aload_n 0, 1) := by decide +kernel
theorem dX5_does_52 : decode cX5_does 52 = .ok (.getfield 193, 3) := by decide +kernel
theorem dX5_does_55 : decode cX5_does 55 = .ok (.if_icmp .ge 24, 3) := by decide +kernel
theorem dX5_does_58 : decode cX5_does 58 = .ok (.aload_n 0, 1) := by decide +kernel
theorem dX5_does_59 : decode cX5_does 59 = .ok (.aload_n 0, 1) := by decide +kernel
theorem dX5_does_60 : decode cX5_does 60 = .ok (.getfield 206, 3) := by decide +kernel
theorem dX5_does_63 : decode cX5_does 63 = .ok (.aload_n 0, 1) := by decide +kernel
theorem dX5_does_64 : decode cX5_does 64 = .ok (.getfield 28, 3) := by decide +kernel
theorem dX5_does_67 : decode cX5_does 67 = .ok (.iload_n 1, 1) := by decide +kernel
theorem dX5_does_68 : decode cX5_does 68 = .ok (.iaload, 1) := by decide +kernel
theorem dX5_does_69 : decode cX5_does 69 = .ok (.invokevirtual 130, 3) := by decide +kernel
theorem dX5_does_72 : decode cX5_does 72 = .ok (.pop, 1) := by decide +kernel
theorem dX5_does_73 : decode cX5_does 73 = .ok (.iinc 1 1, 3) := by decide +kernel
theorem dX5_does_76 : decode cX5_does 76 = .ok (.goto (-26), 3) := by decide +kernel
theorem dX5_does_79 : decode cX5_does 79 = .ok (.goto 66, 3) := by decide +kernel
theorem dX5_does_82 : decode cX5_does 82 = .ok (.aload_n 0, 1) := by decide +kernel
theorem dX5_does_83 : decode cX5_does 83 = .ok (.aload_n 0, 1) := by decide +kernel
theorem dX5_does_84 : decode cX5_does 84 = .ok (.getfield 206, 3) := by decide +kernel
theorem dX5_does_87 : decode cX5_does 87 = .ok (.aload_n 0, 1) := by decide +kernel
theorem dX5_does_88 : decode cX5_does 88 = .ok (.getfield 28, 3) := by decide +kernel
theorem dX5_does_91 : decode cX5_does 91 = .ok (.iconst 0, 1) := by decide +kernel
theorem dX5_does_92 : decode cX5_does 92 = .ok (.iaload, 1) := by decide +kernel
theorem dX5_does_93 : decode cX5_does 93 = .ok (.invokevirtual 144, 3) := by decide +kernel
theorem dX5_does_96 : decode cX5_does 96 = .ok (.pop, 1) := by decide +kernel
theorem dX5_does_97 : decode cX5_does 97 = .ok (.goto 48, 3) := by decide +kernel
theorem dX5_does_100 : decode cX5_does 100 = .ok (.aload_n 0, 1) := by decide +kernel
theorem dX5_does_101 : decode cX5_does 101 = .ok (.aload_n 0, 1) := by decide +kernel
theorem dX5_does_102 : decode cX5_does 102 = .ok (.getfield 206, 3) := by decide +kernel
theorem dX5_does_105 : decode cX5_does 105 = .ok (.aload_n 0, 1) := by decide +kernel
theorem dX5_does_106 : decode cX5_does 106 = .ok (.getfield 28, 3) := by decide +kernel
theorem dX5_does_109 : decode cX5_does 109 = .ok (.iconst 0, 1) := by decide +kernel
theorem dX5_does_110 : decode cX5_does 110 = .ok (.iaload, 1) := by decide +kernel
theorem dX5_does_111 : decode cX5_does 111 = .ok (.aload_n 0, 1) := by decide +kernel
theorem dX5_does_112 : decode cX5_does 112 = .ok (.getfield 28, 3) := by decide +kernel
theorem dX5_does_115 : decode cX5_does 115 = .ok (.iconst 1, 1) := by decide +kernel
theorem dX5_does_116 : decode cX5_does 116 = .ok (.iaload, 1) := by decide +kernel
theorem dX5_does_117 : decode cX5_does 117 = .ok (.invokevirtual 137, 3) := by decide +kernel
theorem dX5_does_120 : decode cX5_does 120 = .ok (.pop, 1) := by decide +kernel
theorem dX5_does_121 : decode cX5_does 121 = .ok (.goto 24, 3) := by decide +kernel
theorem dX5_does_124 : decode cX5_does 124 = .ok (.aload_n 0, 1) := by decide +kernel
theorem dX5_does_125 : decode cX5_does 125 = .ok (.aload_n 0, 1) := by decide +kernel
theorem dX5_does_126 : decode cX5_does 126 = .ok (.getfield 206, 3) := by decide +kernel
theorem dX5_does_129 : decode cX5_does 129 = .ok (.invokevirtual 150, 3) := by decide +kernel
theorem dX5_does_132 : decode cX5_does 132 = .ok (.pop, 1) := by decide +kernel
theorem dX5_does_133 : decode cX5_does 133 = .ok (.goto 12, 3) := by decide +kernel
theorem dX5_does_136 : decode cX5_does 136 = .ok (.aload_n 0, 1) := by decide +kernel
theorem dX5_does_137 : decode cX5_does 137 = .ok (.aload_n 0, 1) := by decide +kernel
theorem dX5_does_138 : decode cX5_does 138 = .ok (.getfield 206, 3) := by decide +kernel
theorem dX5_does_141 : decode cX5_does 141 = .ok (.invokevirtual 121, 3) := by decide +kernel
theorem dX5_does_144 : decode cX5_does 144 = .ok (.pop, 1) := by decide +kernel
theorem dX5_does_145 : decode cX5_does 145 = .ok (.return_, 1) := by decide +kernel
set_option maxRecDepth 20000 in
theorem ggX5_carryOut_X5_findFault : GoodIn wsX5_carryOut wsX5_findFault := goodIn_r _ [7, 1, 2, 8, 9, 10, 6, 11, 12, 13, 14, 15, 16, 17, 18, 19, 20, 21, 22, 23, 24, 25, 26, 27, 28, 29, 30, 31, 32, 33, 34, 35, 36, 37, 38, 39, 177, 178, 179, 180, 181, 182, 183, 184, 185, 186, 187, 188, 189] (by decide +kernel) (by decide +kernel)
set_option maxRecDepth 20000 in
theorem gX5_carryOut_X5_findFault : GoodIn wsX5_carryOut (wsV RX5 215 RX5 yX5_findFault wsX5_findFault) := goodIn_app (goodIn_of _ (by decide +kernel)) ggX5_carryOut_X5_findFault
set_option maxRecDepth 20000 in
theorem ggX5_carryOut_X5_record : GoodIn wsX5_carryOut wsX5_record := goodIn_r _ [43, 44, 45, 46, 47, 48, 6, 49, 177, 178, 179, 180, 181, 182, 183, 184, 185, 186, 187, 188, 189] (by decide +kernel) (by decide +kernel)
set_option maxRecDepth 20000 in
theorem gX5_carryOut_X5_record : GoodIn wsX5_carryOut (wsV RX5 118 RX5 yX5_record wsX5_record) := goodIn_app (goodIn_of _ (by decide +kernel)) ggX5_carryOut_X5_record
set_option maxRecDepth 20000 in
theorem ggX5_carryOut_X5_readsOrder : GoodIn wsX5_carryOut wsX5_readsOrder := goodIn_r _ [11, 12, 13, 1, 14, 15, 16, 17, 6, 18, 19, 20, 21, 22, 2, 23, 24, 25, 26, 27, 28, 29, 30, 31, 32, 33, 34, 35, 36, 37, 38, 39, 177, 178, 179, 180, 181, 182, 183, 184, 185, 186, 187, 188, 189] (by decide +kernel) (by decide +kernel)
set_option maxRecDepth 20000 in
theorem gX5_carryOut_X5_readsOrder : GoodIn wsX5_carryOut (wsV RX5 212 RX5 yX5_readsOrder wsX5_readsOrder) := goodIn_app (goodIn_of _ (by decide +kernel)) ggX5_carryOut_X5_readsOrder
set_option maxRecDepth 20000 in
theorem ggX5_carryOut_X5_isNext : GoodIn wsX5_carryOut wsX5_isNext := goodIn_r _ [39, 1, 19, 20, 21, 6, 22, 2, 23, 177, 178, 179, 180, 181, 182, 183, 184, 185, 186, 187, 188, 189] (by decide +kernel) (by decide +kernel)
set_option maxRecDepth 20000 in
theorem gX5_carryOut_X5_isNext : GoodIn wsX5_carryOut (wsV RX5 203 RX5 yX5_isNext wsX5_isNext) := goodIn_app (goodIn_of _ (by decide +kernel)) ggX5_carryOut_X5_isNext
set_option maxRecDepth 20000 in
theorem ggX5_carryOut_X5_canDo : GoodIn wsX5_carryOut wsX5_canDo := goodIn_r _ [53, 14, 13, 31, 54, 55, 56, 6, 57, 58, 59, 60, 24, 25, 26, 61, 62, 63, 64, 46, 65, 66, 67, 68, 69, 70, 71, 72, 73, 74, 75, 76, 177, 178, 179, 180, 181, 182, 183, 184, 185, 186, 187, 188, 189] (by decide +kernel) (by decide +kernel)
set_option maxRecDepth 20000 in
theorem gX5_carryOut_X5_canDo : GoodIn wsX5_carryOut (wsV RX5 218 RX5 yX5_canDo wsX5_canDo) := goodIn_app (goodIn_of _ (by decide +kernel)) ggX5_carryOut_X5_canDo
set_option maxRecDepth 20000 in
theorem ggX5_carryOut_X5_does : GoodIn wsX5_carryOut wsX5_does := goodIn_r _ [80, 14, 12, 13, 31, 81, 82, 83, 6, 84, 85, 86, 87, 88, 89, 90, 91, 92, 46, 93, 94, 95, 96, 97, 61, 62, 63, 64, 98, 99, 100, 101, 102, 103, 104, 105, 106, 107, 108, 109, 110, 111, 112, 113, 114, 115, 116, 117, 118, 119, 120, 121, 122, 123, 124, 125, 126, 127, 128, 129, 130, 131, 132, 133, 134, 135, 136, 137, 138, 139, 140, 141, 142, 143, 144, 145, 146, 147, 148, 149, 150, 151, 152, 153, 154, 155, 156, 157, 158, 159, 160, 161, 162, 163, 164, 165, 166, 167, 168, 169, 170, 171, 172, 173, 174, 175, 176, 177, 178, 179, 180, 181, 182, 183, 184, 185, 186, 187, 188, 189] (by decide +kernel) (by decide +kernel)
set_option maxRecDepth 20000 in
theorem gX5_carryOut_X5_does : GoodIn wsX5_carryOut (wsV RX5 221 RX5 yX5_does wsX5_does) := goodIn_app (goodIn_of _ (by decide +kernel)) ggX5_carryOut_X5_does
theorem dX5_carryOut_0 : decode cX5_carryOut 0 = .ok (.aload_n 0, 1) := by decide +kernel
theorem dX5_carryOut_1 : decode cX5_carryOut 1 = .ok (.invokevirtual 215, 3) := by decide +kernel
theorem dX5_carryOut_4 : decode cX5_carryOut 4 = .ok (.bipush (-6), 2) := by decide +kernel
theorem dX5_carryOut_6 : decode cX5_carryOut 6 = .ok (.if_icmp .eq 6, 3) := by decide +kernel
theorem dX5_carryOut_9 : decode cX5_carryOut 9 = .ok (.bipush (-3), 2) := by decide +kernel
theorem dX5_carryOut_11 : decode cX5_carryOut 11 = .ok (.ireturn, 1) := by decide +kernel
theorem dX5_carryOut_12 : decode cX5_carryOut 12 = .ok (.aload_n 0, 1) := by decide +kernel
theorem dX5_carryOut_13 : decode cX5_carryOut 13 = .ok (.invokevirtual 118, 3) := by decide +kernel
theorem dX5_carryOut_16 : decode cX5_carryOut 16 = .ok (.iconst 0, 1) := by decide +kernel
theorem dX5_carryOut_17 : decode cX5_carryOut 17 = .ok (.istore_n 1, 1) := by decide +kernel
theorem dX5_carryOut_18 : decode cX5_carryOut 18 = .ok (.aload_n 0, 1) := by decide +kernel
theorem dX5_carryOut_19 : decode cX5_carryOut 19 = .ok (.iconst 0, 1) := by decide +kernel
theorem dX5_carryOut_20 : decode cX5_carryOut 20 = .ok (.putfield 184, 3) := by decide +kernel
theorem dX5_carryOut_23 : decode cX5_carryOut 23 = .ok (.iconst 1, 1) := by decide +kernel
theorem dX5_carryOut_24 : decode cX5_carryOut 24 = .ok (.istore_n 2, 1) := by decide +kernel
theorem dX5_carryOut_25 : decode cX5_carryOut 25 = .ok (.iload_n 2, 1) := by decide +kernel
theorem dX5_carryOut_26 : decode cX5_carryOut 26 = .ok (.ifCond .eq 45, 3) := by decide +kernel
theorem dX5_carryOut_29 : decode cX5_carryOut 29 = .ok (.aload_n 0, 1) := by decide +kernel
theorem dX5_carryOut_30 : decode cX5_carryOut 30 = .ok (.getfield 184, 3) := by decide +kernel
theorem dX5_carryOut_33 : decode cX5_carryOut 33 = .ok (.aload_n 0, 1) := by decide +kernel
theorem dX5_carryOut_34 : decode cX5_carryOut 34 = .ok (.getfield 173, 3) := by decide +kernel
theorem dX5_carryOut_37 : decode cX5_carryOut 37 = .ok (.if_icmp .ge 34, 3) := by decide +kernel
theorem dX5_carryOut_40 : decode cX5_carryOut 40 = .ok (.aload_n 0, 1) := by decide +kernel
theorem dX5_carryOut_41 : decode cX5_carryOut 41 = .ok (.invokevirtual 212, 3) := by decide +kernel
theorem dX5_carryOut_44 : decode cX5_carryOut 44 = .ok (.pop, 1) := by decide +kernel
theorem dX5_carryOut_45 : decode cX5_carryOut 45 = .ok (.aload_n 0, 1) := by decide +kernel
theorem dX5_carryOut_46 : decode cX5_carryOut 46 = .ok (.bipush 59, 2) := by decide +kernel
theorem dX5_carryOut_48 : decode cX5_carryOut 48 = .ok (.invokevirtual 203, 3) := by decide +kernel
theorem dX5_carryOut_51 : decode cX5_carryOut 51 = .ok (.pop, 1) := by decide +kernel
theorem dX5_carryOut_52 : decode cX5_carryOut 52 = .ok (.aload_n 0, 1) := by decide +kernel
theorem dX5_carryOut_53 : decode cX5_carryOut 53 = .ok (.invokevirtual 218, 3) := by decide +kernel
theorem dX5_carryOut_56 : decode cX5_carryOut 56 = .ok (.istore_n 2, 1) := by decide +kernel
theorem dX5_carryOut_57 : decode cX5_carryOut 57 = .ok (.iload_n 2, 1) := by decide +kernel
theorem dX5_carryOut_58 : decode cX5_carryOut 58 = .ok (.ifCond .eq (-33), 3) := by decide +kernel
theorem dX5_carryOut_61 : decode cX5_carryOut 61 = .ok (.aload_n 0, 1) := by decide +kernel
theorem dX5_carryOut_62 : decode cX5_carryOut 62 = .ok (.invokevirtual 221, 3) := by decide +kernel
theorem dX5_carryOut_65 : decode cX5_carryOut 65 = .ok (.iinc 1 1, 3) := by decide +kernel
theorem dX5_carryOut_68 : decode cX5_carryOut 68 = .ok (.goto (-43), 3) := by decide +kernel
theorem dX5_carryOut_71 : decode cX5_carryOut 71 = .ok (.aload_n 0, 1) := by decide +kernel
theorem dX5_carryOut_72 : decode cX5_carryOut 72 = .ok (.iconst 0, 1) := by decide +kernel
theorem dX5_carryOut_73 : decode cX5_carryOut 73 = .ok (.putfield 173, 3) := by decide +kernel
theorem dX5_carryOut_76 : decode cX5_carryOut 76 = .ok (.iload_n 1, 1) := by decide +kernel
theorem dX5_carryOut_77 : decode cX5_carryOut 77 = .ok (.ireturn, 1) := by decide +kernel
set_option maxRecDepth 20000 in
theorem ggX5_undo_X5_moves : GoodIn wsX5_undo wsX5_moves := goodIn_r _ [7] (by decide +kernel) (by decide +kernel)
set_option maxRecDepth 20000 in
theorem gX5_undo_X5_moves : GoodIn wsX5_undo (va_wsS RX5 39 yX5_moves wsX5_moves) := goodIn_app (goodIn_of _ (by decide +kernel)) ggX5_undo_X5_moves
theorem dX5_undo_0 : decode cX5_undo 0 = .ok (.aload_n 0, 1) := by decide +kernel
theorem dX5_undo_1 : decode cX5_undo 1 = .ok (.getfield 35, 3) := by decide +kernel
theorem dX5_undo_4 : decode cX5_undo 4 = .ok (.ifCond .ne 6, 3) := by decide +kernel
theorem dX5_undo_7 : decode cX5_undo 7 = .ok (.bipush (-5), 2) := by decide +kernel
theorem dX5_undo_9 : decode cX5_undo 9 = .ok (.ireturn, 1) := by decide +kernel
theorem dX5_undo_10 : decode cX5_undo 10 = .ok (.aload_n 0, 1) := by decide +kernel
theorem dX5_undo_11 : decode cX5_undo 11 = .ok (.dup, 1) := by decide +kernel
theorem dX5_undo_12 : decode cX5_undo 12 = .ok (.getfield 35, 3) := by decide +kernel
theorem dX5_undo_15 : decode cX5_undo 15 = .ok (.iconst 1, 1) := by decide +kernel
theorem dX5_undo_16 : decode cX5_undo 16 = .ok (.isub, 1) := by decide +kernel
theorem dX5_undo_17 : decode cX5_undo 17 = .ok (.putfield 35, 3) := by decide +kernel
theorem dX5_undo_20 : decode cX5_undo 20 = .ok (.aload_n 0, 1) := by decide +kernel
theorem dX5_undo_21 : decode cX5_undo 21 = .ok (.getfield 13, 3) := by decide +kernel
theorem dX5_undo_24 : decode cX5_undo 24 = .ok (.aload_n 0, 1) := by decide +kernel
theorem dX5_undo_25 : decode cX5_undo 25 = .ok (.getfield 35, 3) := by decide +kernel
theorem dX5_undo_28 : decode cX5_undo 28 = .ok (.sipush 637, 3) := by decide +kernel
theorem dX5_undo_31 : decode cX5_undo 31 = .ok (.imul, 1) := by decide +kernel
theorem dX5_undo_32 : decode cX5_undo 32 = .ok (.aload_n 0, 1) := by decide +kernel
theorem dX5_undo_33 : decode cX5_undo 33 = .ok (.getfield 7, 3) := by decide +kernel
theorem dX5_undo_36 : decode cX5_undo 36 = .ok (.iconst 0, 1) := by decide +kernel
theorem dX5_undo_37 : decode cX5_undo 37 = .ok (.invokestatic 39, 3) := by decide +kernel
theorem dX5_undo_40 : decode cX5_undo 40 = .ok (.aload_n 0, 1) := by decide +kernel
theorem dX5_undo_41 : decode cX5_undo 41 = .ok (.getfield 35, 3) := by decide +kernel
theorem dX5_undo_44 : decode cX5_undo 44 = .ok (.ireturn, 1) := by decide +kernel
set_option maxRecDepth 20000 in
theorem ggX5_save_X5_within : GoodIn wsX5_save wsX5_within := goodIn_r _ [7] (by decide +kernel) (by decide +kernel)
set_option maxRecDepth 20000 in
theorem gX5_save_X5_within : GoodIn wsX5_save (va_wsS RX5 43 yX5_within wsX5_within) := goodIn_app (goodIn_of _ (by decide +kernel)) ggX5_save_X5_within
set_option maxRecDepth 20000 in
theorem ggX5_save_X5_moves : GoodIn wsX5_save wsX5_moves := goodIn_r _ [10] (by decide +kernel) (by decide +kernel)
set_option maxRecDepth 20000 in
theorem gX5_save_X5_moves : GoodIn wsX5_save (va_wsS RX5 39 yX5_moves wsX5_moves) := goodIn_app (goodIn_of _ (by decide +kernel)) ggX5_save_X5_moves
set_option maxRecDepth 20000 in
theorem ggX5_save_X5_allFilled : GoodIn wsX5_save wsX5_allFilled := goodIn_r _ [14, 15, 16, 17, 6, 18, 19, 20, 21, 22, 23, 24, 25, 26, 1, 27, 28, 29, 30, 31, 32, 33, 34, 35, 36, 37, 38, 39] (by decide +kernel) (by decide +kernel)
set_option maxRecDepth 20000 in
theorem gX5_save_X5_allFilled : GoodIn wsX5_save (wsV RX5 167 RX5 yX5_allFilled wsX5_allFilled) := goodIn_app (goodIn_of _ (by decide +kernel)) ggX5_save_X5_allFilled
theorem dX5_save_0 : decode cX5_save 0 = .ok (.iload_n 1, 1) := by decide +kernel
theorem dX5_save_1 : decode cX5_save 1 = .ok (.iconst 0, 1) := by decide +kernel
theorem dX5_save_2 : decode cX5_save 2 = .ok (.iconst 1, 1) := by decide +kernel
theorem dX5_save_3 : decode cX5_save 3 = .ok (.invokestatic 43, 3) := by decide +kernel
theorem dX5_save_6 : decode cX5_save 6 = .ok (.ifCond .ne 6, 3) := by decide +kernel
theorem dX5_save_9 : decode cX5_save 9 = .ok (.bipush (-2), 2) := by decide +kernel
theorem dX5_save_11 : decode cX5_save 11 = .ok (.ireturn, 1) := by decide +kernel
theorem dX5_save_12 : decode cX5_save 12 = .ok (.aload_n 0, 1) := by decide +kernel
theorem dX5_save_13 : decode cX5_save 13 = .ok (.getfield 7, 3) := by decide +kernel
theorem dX5_save_16 : decode cX5_save 16 = .ok (.iconst 0, 1) := by decide +kernel
theorem dX5_save_17 : decode cX5_save 17 = .ok (.aload_n 0, 1) := by decide +kernel
theorem dX5_save_18 : decode cX5_save 18 = .ok (.getfield 16, 3) := by decide +kernel
theorem dX5_save_21 : decode cX5_save 21 = .ok (.sipush 637, 3) := by decide +kernel
theorem dX5_save_24 : decode cX5_save 24 = .ok (.iload_n 1, 1) := by decide +kernel
theorem dX5_save_25 : decode cX5_save 25 = .ok (.imul, 1) := by decide +kernel
theorem dX5_save_26 : decode cX5_save 26 = .ok (.invokestatic 39, 3) := by decide +kernel
theorem dX5_save_29 : decode cX5_save 29 = .ok (.aload_n 0, 1) := by decide +kernel
theorem dX5_save_30 : decode cX5_save 30 = .ok (.getfield 19, 3) := by decide +kernel
theorem dX5_save_33 : decode cX5_save 33 = .ok (.iload_n 1, 1) := by decide +kernel
theorem dX5_save_34 : decode cX5_save 34 = .ok (.iconst 1, 1) := by decide +kernel
theorem dX5_save_35 : decode cX5_save 35 = .ok (.iastore, 1) := by decide +kernel
theorem dX5_save_36 : decode cX5_save 36 = .ok (.aload_n 0, 1) := by decide +kernel
theorem dX5_save_37 : decode cX5_save 37 = .ok (.invokevirtual 167, 3) := by decide +kernel
theorem dX5_save_40 : decode cX5_save 40 = .ok (.ireturn, 1) := by decide +kernel
set_option maxRecDepth 20000 in
theorem ggX5_restore_X5_within : GoodIn wsX5_restore wsX5_within := goodIn_r _ [7] (by decide +kernel) (by decide +kernel)
set_option maxRecDepth 20000 in
theorem gX5_restore_X5_within : GoodIn wsX5_restore (va_wsS RX5 43 yX5_within wsX5_within) := goodIn_app (goodIn_of _ (by decide +kernel)) ggX5_restore_X5_within
set_option maxRecDepth 20000 in
theorem ggX5_restore_X5_record : GoodIn wsX5_restore wsX5_record := goodIn_r _ [11, 12, 13, 3, 14, 15, 6, 16, 33, 34, 35, 36, 37, 38, 39, 40, 41, 42, 43, 44, 45] (by decide +kernel) (by decide +kernel)
set_option maxRecDepth 20000 in
theorem gX5_restore_X5_record : GoodIn wsX5_restore (wsV RX5 118 RX5 yX5_record wsX5_record) := goodIn_app (goodIn_of _ (by decide +kernel)) ggX5_restore_X5_record
set_option maxRecDepth 20000 in
theorem ggX5_restore_X5_moves : GoodIn wsX5_restore wsX5_moves := goodIn_r _ [16] (by decide +kernel) (by decide +kernel)
set_option maxRecDepth 20000 in
theorem gX5_restore_X5_moves : GoodIn wsX5_restore (va_wsS RX5 39 yX5_moves wsX5_moves) := goodIn_app (goodIn_of _ (by decide +kernel)) ggX5_restore_X5_moves
set_option maxRecDepth 20000 in
theorem ggX5_restore_X5_allFilled : GoodIn wsX5_restore wsX5_allFilled := goodIn_r _ [20, 21, 22, 23, 6, 24, 25, 26, 27, 28, 29, 30, 31, 32, 3, 33, 34, 35, 36, 37, 38, 39, 40, 41, 42, 43, 44, 45] (by decide +kernel) (by decide +kernel)
set_option maxRecDepth 20000 in
theorem gX5_restore_X5_allFilled : GoodIn wsX5_restore (wsV RX5 167 RX5 yX5_allFilled wsX5_allFilled) := goodIn_app (goodIn_of _ (by decide +kernel)) ggX5_restore_X5_allFilled
theorem dX5_restore_0 : decode cX5_restore 0 = .ok (.iload_n 1, 1) := by decide +kernel
theorem dX5_restore_1 : decode cX5_restore 1 = .ok (.iconst 0, 1) := by decide +kernel
theorem dX5_restore_2 : decode cX5_restore 2 = .ok (.iconst 1, 1) := by decide +kernel
theorem dX5_restore_3 : decode cX5_restore 3 = .ok (.invokestatic 43, 3) := by decide +kernel
theorem dX5_restore_6 : decode cX5_restore 6 = .ok (.ifCond .ne 6, 3) := by decide +kernel
theorem dX5_restore_9 : decode cX5_restore 9 = .ok (.bipush (-2), 2) := by decide +kernel
theorem dX5_restore_11 : decode cX5_restore 11 = .ok (.ireturn, 1) := by decide +kernel
theorem dX5_restore_12 : decode cX5_restore 12 = .ok (.aload_n 0, 1) := by decide +kernel
theorem dX5_restore_13 : decode cX5_restore 13 = .ok (.getfield 19, 3) := by decide +kernel
theorem dX5_restore_16 : decode cX5_restore 16 = .ok (.iload_n 1, 1) := by decide +kernel
theorem dX5_restore_17 : decode cX5_restore 17 = .ok (.iaload, 1) := by decide +kernel
theorem dX5_restore_18 : decode cX5_restore 18 = .ok (.ifCond .ne 6, 3) := by decide +kernel
theorem dX5_restore_21 : decode cX5_restore 21 = .ok (.bipush (-5), 2) := by decide +kernel
theorem dX5_restore_23 : decode cX5_restore 23 = .ok (.ireturn, 1) := by decide +kernel
theorem dX5_restore_24 : decode cX5_restore 24 = .ok (.aload_n 0, 1) := by decide +kernel
theorem dX5_restore_25 : decode cX5_restore 25 = .ok (.invokevirtual 118, 3) := by decide +kernel
theorem dX5_restore_28 : decode cX5_restore 28 = .ok (.aload_n 0, 1) := by decide +kernel
theorem dX5_restore_29 : decode cX5_restore 29 = .ok (.getfield 16, 3) := by decide +kernel
theorem dX5_restore_32 : decode cX5_restore 32 = .ok (.sipush 637, 3) := by decide +kernel
theorem dX5_restore_35 : decode cX5_restore 35 = .ok (.iload_n 1, 1) := by decide +kernel
theorem dX5_restore_36 : decode cX5_restore 36 = .ok (.imul, 1) := by decide +kernel
theorem dX5_restore_37 : decode cX5_restore 37 = .ok (.aload_n 0, 1) := by decide +kernel
theorem dX5_restore_38 : decode cX5_restore 38 = .ok (.getfield 7, 3) := by decide +kernel
theorem dX5_restore_41 : decode cX5_restore 41 = .ok (.iconst 0, 1) := by decide +kernel
theorem dX5_restore_42 : decode cX5_restore 42 = .ok (.invokestatic 39, 3) := by decide +kernel
theorem dX5_restore_45 : decode cX5_restore 45 = .ok (.aload_n 0, 1) := by decide +kernel
theorem dX5_restore_46 : decode cX5_restore 46 = .ok (.invokevirtual 167, 3) := by decide +kernel
theorem dX5_restore_49 : decode cX5_restore 49 = .ok (.ireturn, 1) := by decide +kernel
theorem dJ6_bitCount_0f7a4_0 : decode cJ6_bitCount_0f7a4 0 = .ok (.iload_n 0, 1) := by decide +kernel
theorem dJ6_bitCount_0f7a4_1 : decode cJ6_bitCount_0f7a4 1 = .ok (.iload_n 0, 1) := by decide +kernel
theorem dJ6_bitCount_0f7a4_2 : decode cJ6_bitCount_0f7a4 2 = .ok (.iconst 1, 1) := by decide +kernel
theorem dJ6_bitCount_0f7a4_3 : decode cJ6_bitCount_0f7a4 3 = .ok (.iushr, 1) := by decide +kernel
theorem dJ6_bitCount_0f7a4_4 : decode cJ6_bitCount_0f7a4 4 = .ok (.ldc_w 265, 3) := by decide +kernel
theorem dJ6_bitCount_0f7a4_7 : decode cJ6_bitCount_0f7a4 7 = .ok (.iand, 1) := by decide +kernel
theorem dJ6_bitCount_0f7a4_8 : decode cJ6_bitCount_0f7a4 8 = .ok (.isub, 1) := by decide +kernel
theorem dJ6_bitCount_0f7a4_9 : decode cJ6_bitCount_0f7a4 9 = .ok (.istore_n 0, 1) := by decide +kernel
theorem dJ6_bitCount_0f7a4_10 : decode cJ6_bitCount_0f7a4 10 = .ok (.iload_n 0, 1) := by decide +kernel
theorem dJ6_bitCount_0f7a4_11 : decode cJ6_bitCount_0f7a4 11 = .ok (.ldc_w 266, 3) := by decide +kernel
theorem dJ6_bitCount_0f7a4_14 : decode cJ6_bitCount_0f7a4 14 = .ok (.iand, 1) := by decide +kernel
theorem dJ6_bitCount_0f7a4_15 : decode cJ6_bitCount_0f7a4 15 = .ok (.iload_n 0, 1) := by decide +kernel
theorem dJ6_bitCount_0f7a4_16 : decode cJ6_bitCount_0f7a4 16 = .ok (.iconst 2, 1) := by decide +kernel
theorem dJ6_bitCount_0f7a4_17 : decode cJ6_bitCount_0f7a4 17 = .ok (.iushr, 1) := by decide +kernel
theorem dJ6_bitCount_0f7a4_18 : decode cJ6_bitCount_0f7a4 18 = .ok (.ldc_w 266, 3) := by decide +kernel
theorem dJ6_bitCount_0f7a4_21 : decode cJ6_bitCount_0f7a4 21 = .ok (.iand, 1) := by decide +kernel
theorem dJ6_bitCount_0f7a4_22 : decode cJ6_bitCount_0f7a4 22 = .ok (.iadd, 1) := by decide +kernel
theorem dJ6_bitCount_0f7a4_23 : decode cJ6_bitCount_0f7a4 23 = .ok (.istore_n 0, 1) := by decide +kernel
theorem dJ6_bitCount_0f7a4_24 : decode cJ6_bitCount_0f7a4 24 = .ok (.iload_n 0, 1) := by decide +kernel
theorem dJ6_bitCount_0f7a4_25 : decode cJ6_bitCount_0f7a4 25 = .ok (.iload_n 0, 1) := by decide +kernel
theorem dJ6_bitCount_0f7a4_26 : decode cJ6_bitCount_0f7a4 26 = .ok (.iconst 4, 1) := by decide +kernel
theorem dJ6_bitCount_0f7a4_27 : decode cJ6_bitCount_0f7a4 27 = .ok (.iushr, 1) := by decide +kernel
theorem dJ6_bitCount_0f7a4_28 : decode cJ6_bitCount_0f7a4 28 = .ok (.iadd, 1) := by decide +kernel
theorem dJ6_bitCount_0f7a4_29 : decode cJ6_bitCount_0f7a4 29 = .ok (.ldc_w 267, 3) := by decide +kernel
theorem dJ6_bitCount_0f7a4_32 : decode cJ6_bitCount_0f7a4 32 = .ok (.iand, 1) := by decide +kernel
theorem dJ6_bitCount_0f7a4_33 : decode cJ6_bitCount_0f7a4 33 = .ok (.istore_n 0, 1) := by decide +kernel
theorem dJ6_bitCount_0f7a4_34 : decode cJ6_bitCount_0f7a4 34 = .ok (.iload_n 0, 1) := by decide +kernel
theorem dJ6_bitCount_0f7a4_35 : decode cJ6_bitCount_0f7a4 35 = .ok (.iload_n 0, 1) := by decide +kernel
theorem dJ6_bitCount_0f7a4_36 : decode cJ6_bitCount_0f7a4 36 = .ok (.bipush 8, 2) := by decide +kernel
theorem dJ6_bitCount_0f7a4_38 : decode cJ6_bitCount_0f7a4 38 = .ok (.iushr, 1) := by decide +kernel
theorem dJ6_bitCount_0f7a4_39 : decode cJ6_bitCount_0f7a4 39 = .ok (.iadd, 1) := by decide +kernel
theorem dJ6_bitCount_0f7a4_40 : decode cJ6_bitCount_0f7a4 40 = .ok (.istore_n 0, 1) := by decide +kernel
theorem dJ6_bitCount_0f7a4_41 : decode cJ6_bitCount_0f7a4 41 = .ok (.iload_n 0, 1) := by decide +kernel
theorem dJ6_bitCount_0f7a4_42 : decode cJ6_bitCount_0f7a4 42 = .ok (.iload_n 0, 1) := by decide +kernel
theorem dJ6_bitCount_0f7a4_43 : decode cJ6_bitCount_0f7a4 43 = .ok (.bipush 16, 2) := by decide +kernel
theorem dJ6_bitCount_0f7a4_45 : decode cJ6_bitCount_0f7a4 45 = .ok (.iushr, 1) := by decide +kernel
theorem dJ6_bitCount_0f7a4_46 : decode cJ6_bitCount_0f7a4 46 = .ok (.iadd, 1) := by decide +kernel
theorem dJ6_bitCount_0f7a4_47 : decode cJ6_bitCount_0f7a4 47 = .ok (.istore_n 0, 1) := by decide +kernel
theorem dJ6_bitCount_0f7a4_48 : decode cJ6_bitCount_0f7a4 48 = .ok (.iload_n 0, 1) := by decide +kernel
theorem dJ6_bitCount_0f7a4_49 : decode cJ6_bitCount_0f7a4 49 = .ok (.bipush 63, 2) := by decide +kernel
theorem dJ6_bitCount_0f7a4_51 : decode cJ6_bitCount_0f7a4 51 = .ok (.iand, 1) := by decide +kernel
theorem dJ6_bitCount_0f7a4_52 : decode cJ6_bitCount_0f7a4 52 = .ok (.ireturn, 1) := by decide +kernel
theorem dJ9_floorMod_7cf53_0 : decode cJ9_floorMod_7cf53 0 = .ok (.iload_n 0, 1) := by decide +kernel
theorem dJ9_floorMod_7cf53_1 : decode cJ9_floorMod_7cf53 1 = .ok (.iload_n 1, 1) := by decide +kernel
theorem dJ9_floorMod_7cf53_2 : decode cJ9_floorMod_7cf53 2 = .ok (.irem, 1) := by decide +kernel
theorem dJ9_floorMod_7cf53_3 : decode cJ9_floorMod_7cf53 3 = .ok (.istore_n 2, 1) := by decide +kernel
theorem dJ9_floorMod_7cf53_4 : decode cJ9_floorMod_7cf53 4 = .ok (.iload_n 0, 1) := by decide +kernel
theorem dJ9_floorMod_7cf53_5 : decode cJ9_floorMod_7cf53 5 = .ok (.iload_n 1, 1) := by decide +kernel
theorem dJ9_floorMod_7cf53_6 : decode cJ9_floorMod_7cf53 6 = .ok (.ixor, 1) := by decide +kernel
theorem dJ9_floorMod_7cf53_7 : decode cJ9_floorMod_7cf53 7 = .ok (.ifCond .ge 11, 3) := by decide +kernel
theorem dJ9_floorMod_7cf53_10 : decode cJ9_floorMod_7cf53 10 = .ok (.iload_n 2, 1) := by decide +kernel
theorem dJ9_floorMod_7cf53_11 : decode cJ9_floorMod_7cf53 11 = .ok (.ifCond .eq 7, 3) := by decide +kernel
theorem dJ9_floorMod_7cf53_14 : decode cJ9_floorMod_7cf53 14 = .ok (.iload_n 2, 1) := by decide +kernel
theorem dJ9_floorMod_7cf53_15 : decode cJ9_floorMod_7cf53 15 = .ok (.iload_n 1, 1) := by decide +kernel
theorem dJ9_floorMod_7cf53_16 : decode cJ9_floorMod_7cf53 16 = .ok (.iadd, 1) := by decide +kernel
theorem dJ9_floorMod_7cf53_17 : decode cJ9_floorMod_7cf53 17 = .ok (.ireturn, 1) := by decide +kernel
theorem dJ9_floorMod_7cf53_18 : decode cJ9_floorMod_7cf53 18 = .ok (.iload_n 2, 1) := by decide +kernel
theorem dJ9_floorMod_7cf53_19 : decode cJ9_floorMod_7cf53 19 = .ok (.ireturn, 1) := by decide +kernel
theorem dJ9_abs_0f7a4_0 : decode cJ9_abs_0f7a4 0 = .ok (.iload_n 0, 1) := by decide +kernel
theorem dJ9_abs_0f7a4_1 : decode cJ9_abs_0f7a4 1 = .ok (.ifCond .ge 8, 3) := by decide +kernel
theorem dJ9_abs_0f7a4_4 : decode cJ9_abs_0f7a4 4 = .ok (.iload_n 0, 1) := by decide +kernel
theorem dJ9_abs_0f7a4_5 : decode cJ9_abs_0f7a4 5 = .ok (.ineg, 1) := by decide +kernel
theorem dJ9_abs_0f7a4_6 : decode cJ9_abs_0f7a4 6 = .ok (.goto 4, 3) := by decide +kernel
theorem dJ9_abs_0f7a4_9 : decode cJ9_abs_0f7a4 9 = .ok (.iload_n 0, 1) := by decide +kernel
theorem dJ9_abs_0f7a4_10 : decode cJ9_abs_0f7a4 10 = .ok (.ireturn, 1) := by decide +kernel
theorem dJ9_max_7cf53_0 : decode cJ9_max_7cf53 0 = .ok (.iload_n 0, 1) := by decide +kernel
theorem dJ9_max_7cf53_1 : decode cJ9_max_7cf53 1 = .ok (.iload_n 1, 1) := by decide +kernel
theorem dJ9_max_7cf53_2 : decode cJ9_max_7cf53 2 = .ok (.if_icmp .lt 7, 3) := by decide +kernel
theorem dJ9_max_7cf53_5 : decode cJ9_max_7cf53 5 = .ok (.iload_n 0, 1) := by decide +kernel
theorem dJ9_max_7cf53_6 : decode cJ9_max_7cf53 6 = .ok (.goto 4, 3) := by decide +kernel
theorem dJ9_max_7cf53_9 : decode cJ9_max_7cf53 9 = .ok (.iload_n 1, 1) := by decide +kernel
theorem dJ9_max_7cf53_10 : decode cJ9_max_7cf53 10 = .ok (.ireturn, 1) := by decide +kernel
