theorem dX4_carryOrderOut_0 : decode cX4_carryOrderOut 0 = .ok (.aload_n 0, 1) := by decide +kernel
theorem dX4_carryOrderOut_1 : decode cX4_carryOrderOut 1 = .ok (.getfield 10, 3) := by decide +kernel
theorem dX4_carryOrderOut_4 : decode cX4_carryOrderOut 4 = .ok (.aload_n 0, 1) := by decide +kernel
theorem dX4_carryOrderOut_5 : decode cX4_carryOrderOut 5 = .ok (.getfield 34, 3) := by decide +kernel
theorem dX4_carryOrderOut_8 : decode cX4_carryOrderOut 8 = .ok (.getfield 238, 3) := by decide +kernel
theorem dX4_carryOrderOut_11 : decode cX4_carryOrderOut 11 = .ok (.invokevirtual 58, 3) := by decide +kernel
theorem dX4_carryOrderOut_14 : decode cX4_carryOrderOut 14 = .ok (.astore_n 1, 1) := by decide +kernel
theorem dX4_carryOrderOut_15 : decode cX4_carryOrderOut 15 = .ok (.aload_n 1, 1) := by decide +kernel
theorem dX4_carryOrderOut_16 : decode cX4_carryOrderOut 16 = .ok (.ifnonnull 5, 3) := by decide +kernel
theorem dX4_carryOrderOut_19 : decode cX4_carryOrderOut 19 = .ok (.iconst 0, 1) := by decide +kernel
theorem dX4_carryOrderOut_20 : decode cX4_carryOrderOut 20 = .ok (.ireturn, 1) := by decide +kernel
theorem dX4_carryOrderOut_21 : decode cX4_carryOrderOut 21 = .ok (.aload_n 0, 1) := by decide +kernel
theorem dX4_carryOrderOut_22 : decode cX4_carryOrderOut 22 = .ok (.getfield 34, 3) := by decide +kernel
theorem dX4_carryOrderOut_25 : decode cX4_carryOrderOut 25 = .ok (.getfield 241, 3) := by decide +kernel
theorem dX4_carryOrderOut_28 : decode cX4_carryOrderOut 28 = .ok (.lookupswitch 67 #[(38, 50), (42, 56), (47, 62), (58, 44)], 44) := by decide +kernel
theorem dX4_carryOrderOut_72 : decode cX4_carryOrderOut 72 = .ok (.aload_n 0, 1) := by decide +kernel
theorem dX4_carryOrderOut_73 : decode cX4_carryOrderOut 73 = .ok (.aload_n 1, 1) := by decide +kernel
theorem dX4_carryOrderOut_74 : decode cX4_carryOrderOut 74 = .ok (.invokevirtual 244, 3) := by decide +kernel
theorem dX4_carryOrderOut_77 : decode cX4_carryOrderOut 77 = .ok (.ireturn, 1) := by decide +kernel
theorem dX4_carryOrderOut_78 : decode cX4_carryOrderOut 78 = .ok (.aload_n 0, 1) := by decide +kernel
theorem dX4_carryOrderOut_79 : decode cX4_carryOrderOut 79 = .ok (.aload_n 1, 1) := by decide +kernel
theorem dX4_carryOrderOut_80 : decode cX4_carryOrderOut 80 = .ok (.invokevirtual 247, 3) := by decide +kernel
theorem dX4_carryOrderOut_83 : decode cX4_carryOrderOut 83 = .ok (.ireturn, 1) := by decide +kernel
theorem dX4_carryOrderOut_84 : decode cX4_carryOrderOut 84 = .ok (.aload_n 0, 1) := by decide +kernel
theorem dX4_carryOrderOut_85 : decode cX4_carryOrderOut 85 = .ok (.aload_n 1, 1) := by decide +kernel
theorem dX4_carryOrderOut_86 : decode cX4_carryOrderOut 86 = .ok (.invokevirtual 250, 3) := by decide +kernel
theorem dX4_carryOrderOut_89 : decode cX4_carryOrderOut 89 = .ok (.ireturn, 1) := by decide +kernel
theorem dX4_carryOrderOut_90 : decode cX4_carryOrderOut 90 = .ok (.aload_n 1, 1) := by decide +kernel
theorem dX4_carryOrderOut_91 : decode cX4_carryOrderOut 91 = .ok (.invokestatic 253, 3) := by decide +kernel
theorem dX4_carryOrderOut_94 : decode cX4_carryOrderOut 94 = .ok (.ireturn, 1) := by decide +kernel
theorem dX4_carryOrderOut_95 : decode cX4_carryOrderOut 95 = .ok (.aload_n 1, 1) := by decide +kernel
theorem dX4_carryOrderOut_96 : decode cX4_carryOrderOut 96 = .ok (.aload_n 1, 1) := by decide +kernel
theorem dX4_carryOrderOut_97 : decode cX4_carryOrderOut 97 = .ok (.getfield 62, 3) := by decide +kernel
theorem dX4_carryOrderOut_100 : decode cX4_carryOrderOut 100 = .ok (.invokevirtual 65, 3) := by decide +kernel
theorem dX4_carryOrderOut_103 : decode cX4_carryOrderOut 103 = .ok (.iconst 1, 1) := by decide +kernel
theorem dX4_carryOrderOut_104 : decode cX4_carryOrderOut 104 = .ok (.ireturn, 1) := by decide +kernel
set_option maxRecDepth 20000 in
theorem ggX4_carryThingsOut_X1_numberAt : GoodIn wsX4_carryThingsOut wsX1_numberAt := goodIn_r _ [6, 7, 8, 75, 76, 77, 78, 79, 80, 81] (by decide +kernel) (by decide +kernel)
set_option maxRecDepth 20000 in
theorem gX4_carryThingsOut_X1_numberAt : GoodIn wsX4_carryThingsOut (wsV RX4 259 RX1 yX1_numberAt wsX1_numberAt) := goodIn_app (goodIn_of _ (by decide +kernel)) ggX4_carryThingsOut_X1_numberAt
set_option maxRecDepth 20000 in
theorem ggX4_carryThingsOut_X4_takeThings : GoodIn wsX4_carryThingsOut wsX4_takeThings := goodIn_r _ [13, 14, 15, 16, 12, 17, 18, 19, 20, 21, 22, 23, 24, 25, 26, 27, 28, 29, 30, 31, 32, 33, 34, 35, 36, 37, 38, 39, 40, 41, 42, 43, 44, 45, 46, 47, 48, 49, 50, 51, 52, 53, 54, 55, 56, 57, 58, 59, 60, 61, 62, 63, 64, 65, 66, 67, 68, 69, 70, 71, 72, 73, 74, 82, 83, 84, 85, 86, 87, 88] (by decide +kernel) (by decide +kernel)
set_option maxRecDepth 20000 in
theorem gX4_carryThingsOut_X4_takeThings : GoodIn wsX4_carryThingsOut (wsV RX4 72 RX4 yX4_takeThings wsX4_takeThings) := goodIn_app (goodIn_of _ (by decide +kernel)) ggX4_carryThingsOut_X4_takeThings
theorem dX4_carryThingsOut_0 : decode cX4_carryThingsOut 0 = .ok (.iconst 0, 1) := by decide +kernel
theorem dX4_carryThingsOut_1 : decode cX4_carryThingsOut 1 = .ok (.istore_n 2, 1) := by decide +kernel
theorem dX4_carryThingsOut_2 : decode cX4_carryThingsOut 2 = .ok (.iload_n 2, 1) := by decide +kernel
theorem dX4_carryThingsOut_3 : decode cX4_carryThingsOut 3 = .ok (.aload_n 0, 1) := by decide +kernel
theorem dX4_carryThingsOut_4 : decode cX4_carryThingsOut 4 = .ok (.getfield 34, 3) := by decide +kernel
theorem dX4_carryThingsOut_7 : decode cX4_carryThingsOut 7 = .ok (.getfield 256, 3) := by decide +kernel
theorem dX4_carryThingsOut_10 : decode cX4_carryThingsOut 10 = .ok (.if_icmp .ge 24, 3) := by decide +kernel
theorem dX4_carryThingsOut_13 : decode cX4_carryThingsOut 13 = .ok (.aload_n 0, 1) := by decide +kernel
theorem dX4_carryThingsOut_14 : decode cX4_carryThingsOut 14 = .ok (.aload_n 1, 1) := by decide +kernel
theorem dX4_carryThingsOut_15 : decode cX4_carryThingsOut 15 = .ok (.aload_n 0, 1) := by decide +kernel
theorem dX4_carryThingsOut_16 : decode cX4_carryThingsOut 16 = .ok (.getfield 34, 3) := by decide +kernel
theorem dX4_carryThingsOut_19 : decode cX4_carryThingsOut 19 = .ok (.iload_n 2, 1) := by decide +kernel
theorem dX4_carryThingsOut_20 : decode cX4_carryThingsOut 20 = .ok (.invokevirtual 259, 3) := by decide +kernel
theorem dX4_carryThingsOut_23 : decode cX4_carryThingsOut 23 = .ok (.iconst 1, 1) := by decide +kernel
theorem dX4_carryThingsOut_24 : decode cX4_carryThingsOut 24 = .ok (.invokevirtual 72, 3) := by decide +kernel
theorem dX4_carryThingsOut_27 : decode cX4_carryThingsOut 27 = .ok (.pop, 1) := by decide +kernel
theorem dX4_carryThingsOut_28 : decode cX4_carryThingsOut 28 = .ok (.iinc 2 1, 3) := by decide +kernel
theorem dX4_carryThingsOut_31 : decode cX4_carryThingsOut 31 = .ok (.goto (-29), 3) := by decide +kernel
theorem dX4_carryThingsOut_34 : decode cX4_carryThingsOut 34 = .ok (.iconst 1, 1) := by decide +kernel
theorem dX4_carryThingsOut_35 : decode cX4_carryThingsOut 35 = .ok (.ireturn, 1) := by decide +kernel
set_option maxRecDepth 20000 in
theorem ggX4_carryJoinOut_X1_numberAt : GoodIn wsX4_carryJoinOut wsX1_numberAt := goodIn_r _ [7, 8, 9, 72, 73, 74, 75, 76, 77, 78] (by decide +kernel) (by decide +kernel)
set_option maxRecDepth 20000 in
theorem gX4_carryJoinOut_X1_numberAt : GoodIn wsX4_carryJoinOut (wsV RX4 259 RX1 yX1_numberAt wsX1_numberAt) := goodIn_app (goodIn_of _ (by decide +kernel)) ggX4_carryJoinOut_X1_numberAt
set_option maxRecDepth 20000 in
theorem ggX4_carryJoinOut_X3_sketchAt : GoodIn wsX4_carryJoinOut wsX3_sketchAt := goodIn_r _ [14, 15, 79, 80] (by decide +kernel) (by decide +kernel)
set_option maxRecDepth 20000 in
theorem gX4_carryJoinOut_X3_sketchAt : GoodIn wsX4_carryJoinOut (wsV RX4 58 RX3 yX3_sketchAt wsX3_sketchAt) := goodIn_app (goodIn_of _ (by decide +kernel)) ggX4_carryJoinOut_X3_sketchAt
set_option maxRecDepth 20000 in
theorem ggX4_carryJoinOut_X4_areToJoin : GoodIn wsX4_carryJoinOut wsX4_areToJoin := goodIn_r _ [19, 81, 82, 83, 84, 85] (by decide +kernel) (by decide +kernel)
set_option maxRecDepth 20000 in
theorem gX4_carryJoinOut_X4_areToJoin : GoodIn wsX4_carryJoinOut (va_wsS RX4 80 yX4_areToJoin wsX4_areToJoin) := goodIn_app (goodIn_of _ (by decide +kernel)) ggX4_carryJoinOut_X4_areToJoin
set_option maxRecDepth 20000 in
theorem ggX4_carryJoinOut_X2_takeAll : GoodIn wsX4_carryJoinOut wsX2_takeAll := goodIn_r _ [24, 25, 26, 27, 28, 29, 23, 30, 31, 32, 33, 34, 35, 36, 37, 38, 39, 40, 41, 42, 43, 44, 45, 46, 47, 48, 49, 50, 51, 52, 53, 54, 55, 56, 57, 58, 59, 60, 61, 62, 63, 64, 65, 81, 82, 83, 84, 85] (by decide +kernel) (by decide +kernel)
set_option maxRecDepth 20000 in
theorem gX4_carryJoinOut_X2_takeAll : GoodIn wsX4_carryJoinOut (wsV RX4 84 RX2 yX2_takeAll wsX2_takeAll) := goodIn_app (goodIn_of _ (by decide +kernel)) ggX4_carryJoinOut_X2_takeAll
theorem dX4_carryJoinOut_0 : decode cX4_carryJoinOut 0 = .ok (.aload_n 0, 1) := by decide +kernel
theorem dX4_carryJoinOut_1 : decode cX4_carryJoinOut 1 = .ok (.getfield 10, 3) := by decide +kernel
theorem dX4_carryJoinOut_4 : decode cX4_carryJoinOut 4 = .ok (.aload_n 0, 1) := by decide +kernel
theorem dX4_carryJoinOut_5 : decode cX4_carryJoinOut 5 = .ok (.getfield 34, 3) := by decide +kernel
theorem dX4_carryJoinOut_8 : decode cX4_carryJoinOut 8 = .ok (.iconst 0, 1) := by decide +kernel
theorem dX4_carryJoinOut_9 : decode cX4_carryJoinOut 9 = .ok (.invokevirtual 259, 3) := by decide +kernel
theorem dX4_carryJoinOut_12 : decode cX4_carryJoinOut 12 = .ok (.invokevirtual 58, 3) := by decide +kernel
theorem dX4_carryJoinOut_15 : decode cX4_carryJoinOut 15 = .ok (.astore_n 2, 1) := by decide +kernel
theorem dX4_carryJoinOut_16 : decode cX4_carryJoinOut 16 = .ok (.aload_n 2, 1) := by decide +kernel
theorem dX4_carryJoinOut_17 : decode cX4_carryJoinOut 17 = .ok (.ifnull 11, 3) := by decide +kernel
theorem dX4_carryJoinOut_20 : decode cX4_carryJoinOut 20 = .ok (.aload_n 1, 1) := by decide +kernel
theorem dX4_carryJoinOut_21 : decode cX4_carryJoinOut 21 = .ok (.aload_n 2, 1) := by decide +kernel
theorem dX4_carryJoinOut_22 : decode cX4_carryJoinOut 22 = .ok (.invokestatic 80, 3) := by decide +kernel
theorem dX4_carryJoinOut_25 : decode cX4_carryJoinOut 25 = .ok (.ifCond .ne 5, 3) := by decide +kernel
theorem dX4_carryJoinOut_28 : decode cX4_carryJoinOut 28 = .ok (.iconst 0, 1) := by decide +kernel
theorem dX4_carryJoinOut_29 : decode cX4_carryJoinOut 29 = .ok (.ireturn, 1) := by decide +kernel
theorem dX4_carryJoinOut_30 : decode cX4_carryJoinOut 30 = .ok (.aload_n 1, 1) := by decide +kernel
theorem dX4_carryJoinOut_31 : decode cX4_carryJoinOut 31 = .ok (.aload_n 2, 1) := by decide +kernel
theorem dX4_carryJoinOut_32 : decode cX4_carryJoinOut 32 = .ok (.invokevirtual 84, 3) := by decide +kernel
theorem dX4_carryJoinOut_35 : decode cX4_carryJoinOut 35 = .ok (.iconst 1, 1) := by decide +kernel
theorem dX4_carryJoinOut_36 : decode cX4_carryJoinOut 36 = .ok (.ireturn, 1) := by decide +kernel
set_option maxRecDepth 20000 in
theorem ggX4_carryRangeOut_X1_numberAt : GoodIn wsX4_carryRangeOut wsX1_numberAt := goodIn_r _ [6, 7, 8, 82, 83, 84, 85, 86, 87, 88] (by decide +kernel) (by decide +kernel)
set_option maxRecDepth 20000 in
theorem gX4_carryRangeOut_X1_numberAt : GoodIn wsX4_carryRangeOut (wsV RX4 259 RX1 yX1_numberAt wsX1_numberAt) := goodIn_app (goodIn_of _ (by decide +kernel)) ggX4_carryRangeOut_X1_numberAt
set_option maxRecDepth 20000 in
theorem ggX4_carryRangeOut_X4_isRange : GoodIn wsX4_carryRangeOut wsX4_isRange := goodIn_r _ [12, 13, 14, 15, 11, 16] (by decide +kernel) (by decide +kernel)
set_option maxRecDepth 20000 in
theorem gX4_carryRangeOut_X4_isRange : GoodIn wsX4_carryRangeOut (va_wsS RX4 76 yX4_isRange wsX4_isRange) := goodIn_app (goodIn_of _ (by decide +kernel)) ggX4_carryRangeOut_X4_isRange
set_option maxRecDepth 20000 in
theorem ggX4_carryRangeOut_X4_takeThings : GoodIn wsX4_carryRangeOut wsX4_takeThings := goodIn_r _ [20, 21, 22, 23, 11, 24, 25, 26, 27, 28, 29, 30, 31, 32, 33, 34, 35, 36, 37, 38, 39, 40, 41, 42, 43, 44, 45, 46, 47, 48, 49, 50, 51, 52, 53, 54, 55, 56, 57, 58, 59, 60, 61, 62, 63, 64, 65, 66, 67, 68, 69, 70, 71, 72, 73, 74, 75, 76, 77, 78, 79, 80, 81, 89, 90, 91, 92, 93, 94, 95] (by decide +kernel) (by decide +kernel)
set_option maxRecDepth 20000 in
theorem gX4_carryRangeOut_X4_takeThings : GoodIn wsX4_carryRangeOut (wsV RX4 72 RX4 yX4_takeThings wsX4_takeThings) := goodIn_app (goodIn_of _ (by decide +kernel)) ggX4_carryRangeOut_X4_takeThings
theorem dX4_carryRangeOut_0 : decode cX4_carryRangeOut 0 = .ok (.aload_n 0, 1) := by decide +kernel
theorem dX4_carryRangeOut_1 : decode cX4_carryRangeOut 1 = .ok (.getfield 34, 3) := by decide +kernel
theorem dX4_carryRangeOut_4 : decode cX4_carryRangeOut 4 = .ok (.iconst 0, 1) := by decide +kernel
theorem dX4_carryRangeOut_5 : decode cX4_carryRangeOut 5 = .ok (.invokevirtual 259, 3) := by decide +kernel
theorem dX4_carryRangeOut_8 : decode cX4_carryRangeOut 8 = .ok (.istore_n 2, 1) := by decide +kernel
theorem dX4_carryRangeOut_9 : decode cX4_carryRangeOut 9 = .ok (.aload_n 0, 1) := by decide +kernel
theorem dX4_carryRangeOut_10 : decode cX4_carryRangeOut 10 = .ok (.getfield 34, 3) := by decide +kernel
theorem dX4_carryRangeOut_13 : decode cX4_carryRangeOut 13 = .ok (.iconst 1, 1) := by decide +kernel
theorem dX4_carryRangeOut_14 : decode cX4_carryRangeOut 14 = .ok (.invokevirtual 259, 3) := by decide +kernel
theorem dX4_carryRangeOut_17 : decode cX4_carryRangeOut 17 = .ok (.istore_n 3, 1) := by decide +kernel
theorem dX4_carryRangeOut_18 : decode cX4_carryRangeOut 18 = .ok (.iload_n 2, 1) := by decide +kernel
theorem dX4_carryRangeOut_19 : decode cX4_carryRangeOut 19 = .ok (.iload_n 3, 1) := by decide +kernel
theorem dX4_carryRangeOut_20 : decode cX4_carryRangeOut 20 = .ok (.invokestatic 76, 3) := by decide +kernel
theorem dX4_carryRangeOut_23 : decode cX4_carryRangeOut 23 = .ok (.ifCond .ne 5, 3) := by decide +kernel
theorem dX4_carryRangeOut_26 : decode cX4_carryRangeOut 26 = .ok (.iconst 0, 1) := by decide +kernel
theorem dX4_carryRangeOut_27 : decode cX4_carryRangeOut 27 = .ok (.ireturn, 1) := by decide +kernel
theorem dX4_carryRangeOut_28 : decode cX4_carryRangeOut 28 = .ok (.aload_n 0, 1) := by decide +kernel
theorem dX4_carryRangeOut_29 : decode cX4_carryRangeOut 29 = .ok (.aload_n 1, 1) := by decide +kernel
theorem dX4_carryRangeOut_30 : decode cX4_carryRangeOut 30 = .ok (.iload_n 2, 1) := by decide +kernel
theorem dX4_carryRangeOut_31 : decode cX4_carryRangeOut 31 = .ok (.iload_n 3, 1) := by decide +kernel
theorem dX4_carryRangeOut_32 : decode cX4_carryRangeOut 32 = .ok (.invokevirtual 72, 3) := by decide +kernel
theorem dX4_carryRangeOut_35 : decode cX4_carryRangeOut 35 = .ok (.pop, 1) := by decide +kernel
theorem dX4_carryRangeOut_36 : decode cX4_carryRangeOut 36 = .ok (.iconst 1, 1) := by decide +kernel
theorem dX4_carryRangeOut_37 : decode cX4_carryRangeOut 37 = .ok (.ireturn, 1) := by decide +kernel
set_option maxRecDepth 20000 in
theorem ggX4_carryFoldOut_X4_isToFold : GoodIn wsX4_carryFoldOut wsX4_isToFold := goodIn_r _ [4, 28, 29, 30, 31, 32] (by decide +kernel) (by decide +kernel)
set_option maxRecDepth 20000 in
theorem gX4_carryFoldOut_X4_isToFold : GoodIn wsX4_carryFoldOut (va_wsS RX4 92 yX4_isToFold wsX4_isToFold) := goodIn_app (goodIn_of _ (by decide +kernel)) ggX4_carryFoldOut_X4_isToFold
set_option maxRecDepth 20000 in
theorem ggX4_carryFoldOut_X2_halve : GoodIn wsX4_carryFoldOut wsX2_halve := goodIn_r _ [9, 10, 11, 12, 13, 14, 15, 16, 17, 18, 8, 19, 20, 21, 22, 23, 24, 25, 26, 27, 28, 29, 30, 31, 32] (by decide +kernel) (by decide +kernel)
set_option maxRecDepth 20000 in
theorem gX4_carryFoldOut_X2_halve : GoodIn wsX4_carryFoldOut (wsV RX4 96 RX2 yX2_halve wsX2_halve) := goodIn_app (goodIn_of _ (by decide +kernel)) ggX4_carryFoldOut_X2_halve
theorem dX4_carryFoldOut_0 : decode cX4_carryFoldOut 0 = .ok (.aload_n 0, 1) := by decide +kernel
theorem dX4_carryFoldOut_1 : decode cX4_carryFoldOut 1 = .ok (.invokestatic 92, 3) := by decide +kernel
theorem dX4_carryFoldOut_4 : decode cX4_carryFoldOut 4 = .ok (.ifCond .ne 5, 3) := by decide +kernel
theorem dX4_carryFoldOut_7 : decode cX4_carryFoldOut 7 = .ok (.iconst 0, 1) := by decide +kernel
theorem dX4_carryFoldOut_8 : decode cX4_carryFoldOut 8 = .ok (.ireturn, 1) := by decide +kernel
theorem dX4_carryFoldOut_9 : decode cX4_carryFoldOut 9 = .ok (.aload_n 0, 1) := by decide +kernel
theorem dX4_carryFoldOut_10 : decode cX4_carryFoldOut 10 = .ok (.invokevirtual 96, 3) := by decide +kernel
theorem dX4_carryFoldOut_13 : decode cX4_carryFoldOut 13 = .ok (.iconst 1, 1) := by decide +kernel
theorem dX4_carryFoldOut_14 : decode cX4_carryFoldOut 14 = .ok (.ireturn, 1) := by decide +kernel
set_option maxRecDepth 20000 in
theorem ggX5_init_X5_setPart : GoodIn wsX5_init wsX5_setPart := goodIn_r _ [16, 5, 17, 18, 19, 20, 21, 22, 23, 24, 25, 26, 27, 28, 29] (by decide +kernel) (by decide +kernel)
set_option maxRecDepth 20000 in
theorem gX5_init_X5_setPart : GoodIn wsX5_init (wsV RX5 31 RX5 yX5_setPart wsX5_setPart) := goodIn_app (goodIn_of _ (by decide +kernel)) ggX5_init_X5_setPart
theorem dX5_init_0 : decode cX5_init 0 = .ok (.aload_n 0, 1) := by decide +kernel
theorem dX5_init_1 : decode cX5_init 1 = .ok (.invokespecial 1, 3) := by decide +kernel
theorem dX5_init_4 : decode cX5_init 4 = .ok (.aload_n 0, 1) := by decide +kernel
theorem dX5_init_5 : decode cX5_init 5 = .ok (.sipush 637, 3) := by decide +kernel
theorem dX5_init_8 : decode cX5_init 8 = .ok (.newarray .int, 2) := by decide +kernel
theorem dX5_init_10 : decode cX5_init 10 = .ok (.putfield 7, 3) := by decide +kernel
theorem dX5_init_13 : decode cX5_init 13 = .ok (.aload_n 0, 1) := by decide +kernel
theorem dX5_init_14 : decode cX5_init 14 = .ok (.sipush 3822, 3) := by decide +kernel
theorem dX5_init_17 : decode cX5_init 17 = .ok (.newarray .int, 2) := by decide +kernel
theorem dX5_init_19 : decode cX5_init 19 = .ok (.putfield 13, 3) := by decide +kernel
theorem dX5_init_22 : decode cX5_init 22 = .ok (.aload_n 0, 1) := by decide +kernel
theorem dX5_init_23 : decode cX5_init 23 = .ok (.sipush 1274, 3) := by decide +kernel
theorem dX5_init_26 : decode cX5_init 26 = .ok (.newarray .int, 2) := by decide +kernel
theorem dX5_init_28 : decode cX5_init 28 = .ok (.putfield 16, 3) := by decide +kernel
theorem dX5_init_31 : decode cX5_init 31 = .ok (.aload_n 0, 1) := by decide +kernel
theorem dX5_init_32 : decode cX5_init 32 = .ok (.iconst 2, 1) := by decide +kernel
theorem dX5_init_33 : decode cX5_init 33 = .ok (.newarray .int, 2) := by decide +kernel
theorem dX5_init_35 : decode cX5_init 35 = .ok (.putfield 19, 3) := by decide +kernel
theorem dX5_init_38 : decode cX5_init 38 = .ok (.aload_n 0, 1) := by decide +kernel
theorem dX5_init_39 : decode cX5_init 39 = .ok (.bipush 80, 2) := by decide +kernel
theorem dX5_init_41 : decode cX5_init 41 = .ok (.newarray .int, 2) := by decide +kernel
theorem dX5_init_43 : decode cX5_init 43 = .ok (.putfield 22, 3) := by decide +kernel
theorem dX5_init_46 : decode cX5_init 46 = .ok (.aload_n 0, 1) := by decide +kernel
theorem dX5_init_47 : decode cX5_init 47 = .ok (.bipush 64, 2) := by decide +kernel
theorem dX5_init_49 : decode cX5_init 49 = .ok (.newarray .int, 2) := by decide +kernel
theorem dX5_init_51 : decode cX5_init 51 = .ok (.putfield 25, 3) := by decide +kernel
theorem dX5_init_54 : decode cX5_init 54 = .ok (.aload_n 0, 1) := by decide +kernel
theorem dX5_init_55 : decode cX5_init 55 = .ok (.bipush 80, 2) := by decide +kernel
theorem dX5_init_57 : decode cX5_init 57 = .ok (.newarray .int, 2) := by decide +kernel
theorem dX5_init_59 : decode cX5_init 59 = .ok (.putfield 28, 3) := by decide +kernel
theorem dX5_init_62 : decode cX5_init 62 = .ok (.aload_n 0, 1) := by decide +kernel
theorem dX5_init_63 : decode cX5_init 63 = .ok (.getfield 7, 3) := by decide +kernel
theorem dX5_init_66 : decode cX5_init 66 = .ok (.iconst 0, 1) := by decide +kernel
theorem dX5_init_67 : decode cX5_init 67 = .ok (.sipush 12345, 3) := by decide +kernel
theorem dX5_init_70 : decode cX5_init 70 = .ok (.iastore, 1) := by decide +kernel
theorem dX5_init_71 : decode cX5_init 71 = .ok (.iconst 0, 1) := by decide +kernel
theorem dX5_init_72 : decode cX5_init 72 = .ok (.istore_n 1, 1) := by decide +kernel
theorem dX5_init_73 : decode cX5_init 73 = .ok (.iload_n 1, 1) := by decide +kernel
theorem dX5_init_74 : decode cX5_init 74 = .ok (.bipush 6, 2) := by decide +kernel
theorem dX5_init_76 : decode cX5_init 76 = .ok (.if_icmp .ge 16, 3) := by decide +kernel
theorem dX5_init_79 : decode cX5_init 79 = .ok (.aload_n 0, 1) := by decide +kernel
theorem dX5_init_80 : decode cX5_init 80 = .ok (.iload_n 1, 1) := by decide +kernel
theorem dX5_init_81 : decode cX5_init 81 = .ok (.iconst 0, 1) := by decide +kernel
theorem dX5_init_82 : decode cX5_init 82 = .ok (.iconst 4, 1) := by decide +kernel
theorem dX5_init_83 : decode cX5_init 83 = .ok (.invokevirtual 31, 3) := by decide +kernel
theorem dX5_init_86 : decode cX5_init 86 = .ok (.iinc 1 1, 3) := by decide +kernel
theorem dX5_init_89 : decode cX5_init 89 = .ok (.goto (-16), 3) := by decide +kernel
theorem dX5_init_92 : decode cX5_init 92 = .ok (.return_, 1) := by decide +kernel
theorem dX5_moves_0 : decode cX5_moves 0 = .ok (.iconst 0, 1) := by decide +kernel
theorem dX5_moves_1 : decode cX5_moves 1 = .ok (.istore 4, 2) := by decide +kernel
theorem dX5_moves_3 : decode cX5_moves 3 = .ok (.iload 4, 2) := by decide +kernel
theorem dX5_moves_5 : decode cX5_moves 5 = .ok (.sipush 637, 3) := by decide +kernel
theorem dX5_moves_8 : decode cX5_moves 8 = .ok (.if_icmp .ge 21, 3) := by decide +kernel
theorem dX5_moves_11 : decode cX5_moves 11 = .ok (.aload_n 2, 1) := by decide +kernel
theorem dX5_moves_12 : decode cX5_moves 12 = .ok (.iload_n 3, 1) := by decide +kernel
theorem dX5_moves_13 : decode cX5_moves 13 = .ok (.iload 4, 2) := by decide +kernel
theorem dX5_moves_15 : decode cX5_moves 15 = .ok (.iadd, 1) := by decide +kernel
theorem dX5_moves_16 : decode cX5_moves 16 = .ok (.aload_n 0, 1) := by decide +kernel
theorem dX5_moves_17 : decode cX5_moves 17 = .ok (.iload_n 1, 1) := by decide +kernel
theorem dX5_moves_18 : decode cX5_moves 18 = .ok (.iload 4, 2) := by decide +kernel
theorem dX5_moves_20 : decode cX5_moves 20 = .ok (.iadd, 1) := by decide +kernel
theorem dX5_moves_21 : decode cX5_moves 21 = .ok (.iaload, 1) := by decide +kernel
theorem dX5_moves_22 : decode cX5_moves 22 = .ok (.iastore, 1) := by decide +kernel
theorem dX5_moves_23 : decode cX5_moves 23 = .ok (.iinc 4 1, 3) := by decide +kernel
theorem dX5_moves_26 : decode cX5_moves 26 = .ok (.goto (-23), 3) := by decide +kernel
theorem dX5_moves_29 : decode cX5_moves 29 = .ok (.return_, 1) := by decide +kernel
theorem dX5_within_0 : decode cX5_within 0 = .ok (.iload_n 0, 1) := by decide +kernel
theorem dX5_within_1 : decode cX5_within 1 = .ok (.iload_n 1, 1) := by decide +kernel
theorem dX5_within_2 : decode cX5_within 2 = .ok (.if_icmp .lt 12, 3) := by decide +kernel
theorem dX5_within_5 : decode cX5_within 5 = .ok (.iload_n 0, 1) := by decide +kernel
theorem dX5_within_6 : decode cX5_within 6 = .ok (.iload_n 2, 1) := by decide +kernel
theorem dX5_within_7 : decode cX5_within 7 = .ok (.if_icmp .gt 7, 3) := by decide +kernel
theorem dX5_within_10 : decode cX5_within 10 = .ok (.iconst 1, 1) := by decide +kernel
theorem dX5_within_11 : decode cX5_within 11 = .ok (.goto 4, 3) := by decide +kernel
theorem dX5_within_14 : decode cX5_within 14 = .ok (.iconst 0, 1) := by decide +kernel
theorem dX5_within_15 : decode cX5_within 15 = .ok (.ireturn, 1) := by decide +kernel
set_option maxRecDepth 20000 in
theorem ggX5_record_X5_moves : GoodIn wsX5_record wsX5_moves := goodIn_r _ [7] (by decide +kernel) (by decide +kernel)
set_option maxRecDepth 20000 in
theorem gX5_record_X5_moves : GoodIn wsX5_record (va_wsS RX5 39 yX5_moves wsX5_moves) := goodIn_app (goodIn_of _ (by decide +kernel)) ggX5_record_X5_moves
theorem dX5_record_0 : decode cX5_record 0 = .ok (.aload_n 0, 1) := by decide +kernel
theorem dX5_record_1 : decode cX5_record 1 = .ok (.getfield 35, 3) := by decide +kernel
theorem dX5_record_4 : decode cX5_record 4 = .ok (.bipush 6, 2) := by decide +kernel
theorem dX5_record_6 : decode cX5_record 6 = .ok (.if_icmp .ne 44, 3) := by decide +kernel
theorem dX5_record_9 : decode cX5_record 9 = .ok (.iconst 0, 1) := by decide +kernel
theorem dX5_record_10 : decode cX5_record 10 = .ok (.istore_n 1, 1) := by decide +kernel
theorem dX5_record_11 : decode cX5_record 11 = .ok (.iload_n 1, 1) := by decide +kernel
theorem dX5_record_12 : decode cX5_record 12 = .ok (.sipush 3185, 3) := by decide +kernel
theorem dX5_record_15 : decode cX5_record 15 = .ok (.if_icmp .ge 25, 3) := by decide +kernel
theorem dX5_record_18 : decode cX5_record 18 = .ok (.aload_n 0, 1) := by decide +kernel
theorem dX5_record_19 : decode cX5_record 19 = .ok (.getfield 13, 3) := by decide +kernel
theorem dX5_record_22 : decode cX5_record 22 = .ok (.iload_n 1, 1) := by decide +kernel
theorem dX5_record_23 : decode cX5_record 23 = .ok (.aload_n 0, 1) := by decide +kernel
theorem dX5_record_24 : decode cX5_record 24 = .ok (.getfield 13, 3) := by decide +kernel
theorem dX5_record_27 : decode cX5_record 27 = .ok (.iload_n 1, 1) := by decide +kernel
theorem dX5_record_28 : decode cX5_record 28 = .ok (.sipush 637, 3) := by decide +kernel
theorem dX5_record_31 : decode cX5_record 31 = .ok (.iadd, 1) := by decide +kernel
theorem dX5_record_32 : decode cX5_record 32 = .ok (.iaload, 1) := by decide +kernel
theorem dX5_record_33 : decode cX5_record 33 = .ok (.iastore, 1) := by decide +kernel
theorem dX5_record_34 : decode cX5_record 34 = .ok (.iinc 1 1, 3) := by decide +kernel
theorem dX5_record_37 : decode cX5_record 37 = .ok (.goto (-26), 3) := by decide +kernel
theorem dX5_record_40 : decode cX5_record 40 = .ok (.aload_n 0, 1) := by decide +kernel
theorem dX5_record_41 : decode cX5_record 41 = .ok (.dup, 1) := by decide +kernel
theorem dX5_record_42 : decode cX5_record 42 = .ok (.getfield 35, 3) := by decide +kernel
theorem dX5_record_45 : decode cX5_record 45 = .ok (.iconst 1, 1) := by decide +kernel
theorem dX5_record_46 : decode cX5_record 46 = .ok (.isub, 1) := by decide +kernel
theorem dX5_record_47 : decode cX5_record 47 = .ok (.putfield 35, 3) := by decide +kernel
theorem dX5_record_50 : decode cX5_record 50 = .ok (.aload_n 0, 1) := by decide +kernel
theorem dX5_record_51 : decode cX5_record 51 = .ok (.getfield 7, 3) := by decide +kernel
theorem dX5_record_54 : decode cX5_record 54 = .ok (.iconst 0, 1) := by decide +kernel
theorem dX5_record_55 : decode cX5_record 55 = .ok (.aload_n 0, 1) := by decide +kernel
theorem dX5_record_56 : decode cX5_record 56 = .ok (.getfield 13, 3) := by decide +kernel
theorem dX5_record_59 : decode cX5_record 59 = .ok (.aload_n 0, 1) := by decide +kernel
theorem dX5_record_60 : decode cX5_record 60 = .ok (.getfield 35, 3) := by decide +kernel
theorem dX5_record_63 : decode cX5_record 63 = .ok (.sipush 637, 3) := by decide +kernel
theorem dX5_record_66 : decode cX5_record 66 = .ok (.imul, 1) := by decide +kernel
theorem dX5_record_67 : decode cX5_record 67 = .ok (.invokestatic 39, 3) := by decide +kernel
theorem dX5_record_70 : decode cX5_record 70 = .ok (.aload_n 0, 1) := by decide +kernel
theorem dX5_record_71 : decode cX5_record 71 = .ok (.dup, 1) := by decide +kernel
theorem dX5_record_72 : decode cX5_record 72 = .ok (.getfield 35, 3) := by decide +kernel
theorem dX5_record_75 : decode cX5_record 75 = .ok (.iconst 1, 1) := by decide +kernel
theorem dX5_record_76 : decode cX5_record 76 = .ok (.iadd, 1) := by decide +kernel
theorem dX5_record_77 : decode cX5_record 77 = .ok (.putfield 35, 3) := by decide +kernel
theorem dX5_record_80 : decode cX5_record 80 = .ok (.return_, 1) := by decide +kernel
set_option maxRecDepth 20000 in
theorem ggX5_isSketch_X5_within : GoodIn wsX5_isSketch wsX5_within := goodIn_r _ [4] (by decide +kernel) (by decide +kernel)
set_option maxRecDepth 20000 in
theorem gX5_isSketch_X5_within : GoodIn wsX5_isSketch (va_wsS RX5 43 yX5_within wsX5_within) := goodIn_app (goodIn_of _ (by decide +kernel)) ggX5_isSketch_X5_within
theorem dX5_isSketch_0 : decode cX5_isSketch 0 = .ok (.iload_n 0, 1) := by decide +kernel
theorem dX5_isSketch_1 : decode cX5_isSketch 1 = .ok (.iconst 0, 1) := by decide +kernel
theorem dX5_isSketch_2 : decode cX5_isSketch 2 = .ok (.iconst 5, 1) := by decide +kernel
theorem dX5_isSketch_3 : decode cX5_isSketch 3 = .ok (.invokestatic 43, 3) := by decide +kernel
theorem dX5_isSketch_6 : decode cX5_isSketch 6 = .ok (.ireturn, 1) := by decide +kernel
set_option maxRecDepth 20000 in
theorem ggX5_isThing_X5_within : GoodIn wsX5_isThing wsX5_within := goodIn_r _ [5] (by decide +kernel) (by decide +kernel)
set_option maxRecDepth 20000 in
theorem gX5_isThing_X5_within : GoodIn wsX5_isThing (va_wsS RX5 43 yX5_within wsX5_within) := goodIn_app (goodIn_of _ (by decide +kernel)) ggX5_isThing_X5_within
theorem dX5_isThing_0 : decode cX5_isThing 0 = .ok (.iload_n 0, 1) := by decide +kernel
theorem dX5_isThing_1 : decode cX5_isThing 1 = .ok (.iconst 0, 1) := by decide +kernel
theorem dX5_isThing_2 : decode cX5_isThing 2 = .ok (.ldc 47, 2) := by decide +kernel
theorem dX5_isThing_4 : decode cX5_isThing 4 = .ok (.invokestatic 43, 3) := by decide +kernel
theorem dX5_isThing_7 : decode cX5_isThing 7 = .ok (.ireturn, 1) := by decide +kernel
theorem dX5_part_0 : decode cX5_part 0 = .ok (.aload_n 0, 1) := by decide +kernel
theorem dX5_part_1 : decode cX5_part 1 = .ok (.getfield 7, 3) := by decide +kernel
theorem dX5_part_4 : decode cX5_part 4 = .ok (.iconst 1, 1) := by decide +kernel
theorem dX5_part_5 : decode cX5_part 5 = .ok (.bipush 106, 2) := by decide +kernel
theorem dX5_part_7 : decode cX5_part 7 = .ok (.iload_n 1, 1) := by decide +kernel
theorem dX5_part_8 : decode cX5_part 8 = .ok (.imul, 1) := by decide +kernel
theorem dX5_part_9 : decode cX5_part 9 = .ok (.iadd, 1) := by decide +kernel
theorem dX5_part_10 : decode cX5_part 10 = .ok (.iload_n 2, 1) := by decide +kernel
theorem dX5_part_11 : decode cX5_part 11 = .ok (.iadd, 1) := by decide +kernel
theorem dX5_part_12 : decode cX5_part 12 = .ok (.iaload, 1) := by decide +kernel
theorem dX5_part_13 : decode cX5_part 13 = .ok (.ireturn, 1) := by decide +kernel
theorem dX5_setPart_0 : decode cX5_setPart 0 = .ok (.aload_n 0, 1) := by decide +kernel
theorem dX5_setPart_1 : decode cX5_setPart 1 = .ok (.getfield 7, 3) := by decide +kernel
theorem dX5_setPart_4 : decode cX5_setPart 4 = .ok (.iconst 1, 1) := by decide +kernel
theorem dX5_setPart_5 : decode cX5_setPart 5 = .ok (.bipush 106, 2) := by decide +kernel
theorem dX5_setPart_7 : decode cX5_setPart 7 = .ok (.iload_n 1, 1) := by decide +kernel
theorem dX5_setPart_8 : decode cX5_setPart 8 = .ok (.imul, 1) := by decide +kernel
theorem dX5_setPart_9 : decode cX5_setPart 9 = .ok (.iadd, 1) := by decide +kernel
theorem dX5_setPart_10 : decode cX5_setPart 10 = .ok (.iload_n 2, 1) := by decide +kernel
theorem dX5_setPart_11 : decode cX5_setPart 11 = .ok (.iadd, 1) := by decide +kernel
theorem dX5_setPart_12 : decode cX5_setPart 12 = .ok (.iload_n 3, 1) := by decide +kernel
theorem dX5_setPart_13 : decode cX5_setPart 13 = .ok (.iastore, 1) := by decide +kernel
theorem dX5_setPart_14 : decode cX5_setPart 14 = .ok (.return_, 1) := by decide +kernel
set_option maxRecDepth 20000 in
theorem ggX5_bucketsOf_X5_part : GoodIn wsX5_bucketsOf wsX5_part := goodIn_r _ [5, 6, 7, 8, 9, 10, 11, 12, 13, 14, 15, 16, 17, 18, 19] (by decide +kernel) (by decide +kernel)
set_option maxRecDepth 20000 in
theorem gX5_bucketsOf_X5_part : GoodIn wsX5_bucketsOf (wsV RX5 48 RX5 yX5_part wsX5_part) := goodIn_app (goodIn_of _ (by decide +kernel)) ggX5_bucketsOf_X5_part
theorem dX5_bucketsOf_0 : decode cX5_bucketsOf 0 = .ok (.iconst 1, 1) := by decide +kernel
theorem dX5_bucketsOf_1 : decode cX5_bucketsOf 1 = .ok (.aload_n 0, 1) := by decide +kernel
theorem dX5_bucketsOf_2 : decode cX5_bucketsOf 2 = .ok (.iload_n 1, 1) := by decide +kernel
theorem dX5_bucketsOf_3 : decode cX5_bucketsOf 3 = .ok (.iconst 0, 1) := by decide +kernel
theorem dX5_bucketsOf_4 : decode cX5_bucketsOf 4 = .ok (.invokevirtual 48, 3) := by decide +kernel
theorem dX5_bucketsOf_7 : decode cX5_bucketsOf 7 = .ok (.ishl, 1) := by decide +kernel
theorem dX5_bucketsOf_8 : decode cX5_bucketsOf 8 = .ok (.ireturn, 1) := by decide +kernel
theorem dX5_hashOf_0 : decode cX5_hashOf 0 = .ok (.iload_n 0, 1) := by decide +kernel
theorem dX5_hashOf_1 : decode cX5_hashOf 1 = .ok (.i2l, 1) := by decide +kernel
theorem dX5_hashOf_2 : decode cX5_hashOf 2 = .ok (.ldc2_w 52, 3) := by decide +kernel
theorem dX5_hashOf_5 : decode cX5_hashOf 5 = .ok (.lmul, 1) := by decide +kernel
theorem dX5_hashOf_6 : decode cX5_hashOf 6 = .ok (.iload_n 1, 1) := by decide +kernel
theorem dX5_hashOf_7 : decode cX5_hashOf 7 = .ok (.i2l, 1) := by decide +kernel
theorem dX5_hashOf_8 : decode cX5_hashOf 8 = .ok (.ladd, 1) := by decide +kernel
theorem dX5_hashOf_9 : decode cX5_hashOf 9 = .ok (.ldc2_w 54, 3) := by decide +kernel
theorem dX5_hashOf_12 : decode cX5_hashOf 12 = .ok (.lrem, 1) := by decide +kernel
theorem dX5_hashOf_13 : decode cX5_hashOf 13 = .ok (.l2i, 1) := by decide +kernel
theorem dX5_hashOf_14 : decode cX5_hashOf 14 = .ok (.istore_n 2, 1) := by decide +kernel
theorem dX5_hashOf_15 : decode cX5_hashOf 15 = .ok (.iload_n 2, 1) := by decide +kernel
theorem dX5_hashOf_16 : decode cX5_hashOf 16 = .ok (.iload_n 2, 1) := by decide +kernel
theorem dX5_hashOf_17 : decode cX5_hashOf 17 = .ok (.sipush 256, 3) := by decide +kernel
theorem dX5_hashOf_20 : decode cX5_hashOf 20 = .ok (.idiv, 1) := by decide +kernel
theorem dX5_hashOf_21 : decode cX5_hashOf 21 = .ok (.ixor, 1) := by decide +kernel
theorem dX5_hashOf_22 : decode cX5_hashOf 22 = .ok (.ireturn, 1) := by decide +kernel
theorem dX5_rankOf_0 : decode cX5_rankOf 0 = .ok (.iload_n 0, 1) := by decide +kernel
theorem dX5_rankOf_1 : decode cX5_rankOf 1 = .ok (.iload_n 1, 1) := by decide +kernel
theorem dX5_rankOf_2 : decode cX5_rankOf 2 = .ok (.ishr, 1) := by decide +kernel
theorem dX5_rankOf_3 : decode cX5_rankOf 3 = .ok (.istore_n 2, 1) := by decide +kernel
theorem dX5_rankOf_4 : decode cX5_rankOf 4 = .ok (.iload_n 2, 1) := by decide +kernel
theorem dX5_rankOf_5 : decode cX5_rankOf 5 = .ok (.ifCond .ne 8, 3) := by decide +kernel
theorem dX5_rankOf_8 : decode cX5_rankOf 8 = .ok (.bipush 17, 2) := by decide +kernel
theorem dX5_rankOf_10 : decode cX5_rankOf 10 = .ok (.iload_n 1, 1) := by decide +kernel
theorem dX5_rankOf_11 : decode cX5_rankOf 11 = .ok (.isub, 1) := by decide +kernel
theorem dX5_rankOf_12 : decode cX5_rankOf 12 = .ok (.ireturn, 1) := by decide +kernel
theorem dX5_rankOf_13 : decode cX5_rankOf 13 = .ok (.iconst 1, 1) := by decide +kernel
theorem dX5_rankOf_14 : decode cX5_rankOf 14 = .ok (.istore_n 3, 1) := by decide +kernel
theorem dX5_rankOf_15 : decode cX5_rankOf 15 = .ok (.iload_n 2, 1) := by decide +kernel
theorem dX5_rankOf_16 : decode cX5_rankOf 16 = .ok (.iconst 1, 1) := by decide +kernel
theorem dX5_rankOf_17 : decode cX5_rankOf 17 = .ok (.iand, 1) := by decide +kernel
theorem dX5_rankOf_18 : decode cX5_rankOf 18 = .ok (.ifCond .ne 13, 3) := by decide +kernel
theorem dX5_rankOf_21 : decode cX5_rankOf 21 = .ok (.iload_n 2, 1) := by decide +kernel
theorem dX5_rankOf_22 : decode cX5_rankOf 22 = .ok (.iconst 1, 1) := by decide +kernel
theorem dX5_rankOf_23 : decode cX5_rankOf 23 = .ok (.ishr, 1) := by decide +kernel
theorem dX5_rankOf_24 : decode cX5_rankOf 24 = .ok (.istore_n 2, 1) := by decide +kernel
theorem dX5_rankOf_25 : decode cX5_rankOf 25 = .ok (.iinc 3 1, 3) := by decide +kernel
theorem dX5_rankOf_28 : decode cX5_rankOf 28 = .ok (.goto (-13), 3) := by decide +kernel
theorem dX5_rankOf_31 : decode cX5_rankOf 31 = .ok (.iload_n 3, 1) := by decide +kernel
theorem dX5_rankOf_32 : decode cX5_rankOf 32 = .ok (.ireturn, 1) := by decide +kernel
set_option maxRecDepth 20000 in
theorem ggX5_bucketOf_X5_hashOf : GoodIn wsX5_bucketOf wsX5_hashOf := goodIn_r _ [5, 6, 7] (by decide +kernel) (by decide +kernel)
set_option maxRecDepth 20000 in
theorem gX5_bucketOf_X5_hashOf : GoodIn wsX5_bucketOf (va_wsS RX5 56 yX5_hashOf wsX5_hashOf) := goodIn_app (goodIn_of _ (by decide +kernel)) ggX5_bucketOf_X5_hashOf
set_option maxRecDepth 20000 in
theorem ggX5_bucketOf_X5_bucketsOf : GoodIn wsX5_bucketOf wsX5_bucketsOf := goodIn_r _ [11, 12, 13, 14, 4, 15, 1, 16, 17, 18, 19, 20, 21, 22, 23, 24, 25, 26, 27, 28] (by decide +kernel) (by decide +kernel)
set_option maxRecDepth 20000 in
theorem gX5_bucketOf_X5_bucketsOf : GoodIn wsX5_bucketOf (wsV RX5 59 RX5 yX5_bucketsOf wsX5_bucketsOf) := goodIn_app (goodIn_of _ (by decide +kernel)) ggX5_bucketOf_X5_bucketsOf
theorem dX5_bucketOf_0 : decode cX5_bucketOf 0 = .ok (.iload_n 2, 1) := by decide +kernel
theorem dX5_bucketOf_1 : decode cX5_bucketOf 1 = .ok (.aload_n 0, 1) := by decide +kernel
theorem dX5_bucketOf_2 : decode cX5_bucketOf 2 = .ok (.getfield 7, 3) := by decide +kernel
theorem dX5_bucketOf_5 : decode cX5_bucketOf 5 = .ok (.iconst 0, 1) := by decide +kernel
theorem dX5_bucketOf_6 : decode cX5_bucketOf 6 = .ok (.iaload, 1) := by decide +kernel
theorem dX5_bucketOf_7 : decode cX5_bucketOf 7 = .ok (.invokestatic 56, 3) := by decide +kernel
theorem dX5_bucketOf_10 : decode cX5_bucketOf 10 = .ok (.aload_n 0, 1) := by decide +kernel
theorem dX5_bucketOf_11 : decode cX5_bucketOf 11 = .ok (.iload_n 1, 1) := by decide +kernel
theorem dX5_bucketOf_12 : decode cX5_bucketOf 12 = .ok (.invokevirtual 59, 3) := by decide +kernel
theorem dX5_bucketOf_15 : decode cX5_bucketOf 15 = .ok (.irem, 1) := by decide +kernel
theorem dX5_bucketOf_16 : decode cX5_bucketOf 16 = .ok (.ireturn, 1) := by decide +kernel
set_option maxRecDepth 20000 in
theorem ggX5_rankIn_X5_hashOf : GoodIn wsX5_rankIn wsX5_hashOf := goodIn_r _ [5, 6, 7] (by decide +kernel) (by decide +kernel)
set_option maxRecDepth 20000 in
theorem gX5_rankIn_X5_hashOf : GoodIn wsX5_rankIn (va_wsS RX5 56 yX5_hashOf wsX5_hashOf) := goodIn_app (goodIn_of _ (by decide +kernel)) ggX5_rankIn_X5_hashOf
set_option maxRecDepth 20000 in
theorem ggX5_rankIn_X5_part : GoodIn wsX5_rankIn wsX5_part := goodIn_r _ [11, 1, 15, 16, 17, 18, 19, 20, 21, 22, 23, 24, 25, 26, 27] (by decide +kernel) (by decide +kernel)
set_option maxRecDepth 20000 in
theorem gX5_rankIn_X5_part : GoodIn wsX5_rankIn (wsV RX5 48 RX5 yX5_part wsX5_part) := goodIn_app (goodIn_of _ (by decide +kernel)) ggX5_rankIn_X5_part
set_option maxRecDepth 20000 in
theorem ggX5_rankIn_X5_rankOf : GoodIn wsX5_rankIn wsX5_rankOf := goodIn_r _ [14] (by decide +kernel) (by decide +kernel)
set_option maxRecDepth 20000 in
theorem gX5_rankIn_X5_rankOf : GoodIn wsX5_rankIn (va_wsS RX5 63 yX5_rankOf wsX5_rankOf) := goodIn_app (goodIn_of _ (by decide +kernel)) ggX5_rankIn_X5_rankOf
theorem dX5_rankIn_0 : decode cX5_rankIn 0 = .ok (.iload_n 2, 1) := by decide +kernel
theorem dX5_rankIn_1 : decode cX5_rankIn 1 = .ok (.aload_n 0, 1) := by decide +kernel
theorem dX5_rankIn_2 : decode cX5_rankIn 2 = .ok (.getfield 7, 3) := by decide +kernel
theorem dX5_rankIn_5 : decode cX5_rankIn 5 = .ok (.iconst 0, 1) := by decide +kernel
theorem dX5_rankIn_6 : decode cX5_rankIn 6 = .ok (.iaload, 1) := by decide +kernel
theorem dX5_rankIn_7 : decode cX5_rankIn 7 = .ok (.invokestatic 56, 3) := by decide +kernel
theorem dX5_rankIn_10 : decode cX5_rankIn 10 = .ok (.aload_n 0, 1) := by decide +kernel
theorem dX5_rankIn_11 : decode cX5_rankIn 11 = .ok (.iload_n 1, 1) := by decide +kernel
theorem dX5_rankIn_12 : decode cX5_rankIn 12 = .ok (.iconst 0, 1) := by decide +kernel
theorem dX5_rankIn_13 : decode cX5_rankIn 13 = .ok (.invokevirtual 48, 3) := by decide +kernel
theorem dX5_rankIn_16 : decode cX5_rankIn 16 = .ok (.invokestatic 63, 3) := by decide +kernel
theorem dX5_rankIn_19 : decode cX5_rankIn 19 = .ok (.ireturn, 1) := by decide +kernel
set_option maxRecDepth 20000 in
theorem ggX5_wouldChange_X5_rankIn : GoodIn wsX5_wouldChange wsX5_rankIn := goodIn_r _ [5, 6, 7, 8, 4, 9, 10, 11, 12, 13, 14, 15, 16, 17, 18, 27, 28, 29, 30, 31, 32, 33, 34, 35, 36, 37, 38, 39] (by decide +kernel) (by decide +kernel)
set_option maxRecDepth 20000 in
theorem gX5_wouldChange_X5_rankIn : GoodIn wsX5_wouldChange (wsV RX5 66 RX5 yX5_rankIn wsX5_rankIn) := goodIn_app (goodIn_of _ (by decide +kernel)) ggX5_wouldChange_X5_rankIn
set_option maxRecDepth 20000 in
theorem ggX5_wouldChange_X5_bucketOf : GoodIn wsX5_wouldChange wsX5_bucketOf := goodIn_r _ [22, 6, 7, 8, 4, 9, 10, 11, 23, 24, 25, 26, 12, 13, 14, 15, 27, 28, 29, 30, 31, 32, 33, 34, 35, 36, 37, 38, 39] (by decide +kernel) (by decide +kernel)
set_option maxRecDepth 20000 in
theorem gX5_wouldChange_X5_bucketOf : GoodIn wsX5_wouldChange (wsV RX5 69 RX5 yX5_bucketOf wsX5_bucketOf) := goodIn_app (goodIn_of _ (by decide +kernel)) ggX5_wouldChange_X5_bucketOf
set_option maxRecDepth 20000 in
theorem ggX5_wouldChange_X5_part : GoodIn wsX5_wouldChange wsX5_part := goodIn_r _ [15, 6, 27, 28, 29, 30, 31, 32, 33, 34, 35, 36, 37, 38, 39] (by decide +kernel) (by decide +kernel)
set_option maxRecDepth 20000 in
theorem gX5_wouldChange_X5_part : GoodIn wsX5_wouldChange (wsV RX5 48 RX5 yX5_part wsX5_part) := goodIn_app (goodIn_of _ (by decide +kernel)) ggX5_wouldChange_X5_part
theorem dX5_wouldChange_0 : decode cX5_wouldChange 0 = .ok (.aload_n 0, 1) := by decide +kernel
theorem dX5_wouldChange_1 : decode cX5_wouldChange 1 = .ok (.iload_n 1, 1) := by decide +kernel
theorem dX5_wouldChange_2 : decode cX5_wouldChange 2 = .ok (.iload_n 2, 1) := by decide +kernel
theorem dX5_wouldChange_3 : decode cX5_wouldChange 3 = .ok (.invokevirtual 66, 3) := by decide +kernel
theorem dX5_wouldChange_6 : decode cX5_wouldChange 6 = .ok (.aload_n 0, 1) := by decide +kernel
theorem dX5_wouldChange_7 : decode cX5_wouldChange 7 = .ok (.iload_n 1, 1) := by decide +kernel
theorem dX5_wouldChange_8 : decode cX5_wouldChange 8 = .ok (.iconst 2, 1) := by decide +kernel
theorem dX5_wouldChange_9 : decode cX5_wouldChange 9 = .ok (.aload_n 0, 1) := by decide +kernel
theorem dX5_wouldChange_10 : decode cX5_wouldChange 10 = .ok (.iload_n 1, 1) := by decide +kernel
theorem dX5_wouldChange_11 : decode cX5_wouldChange 11 = .ok (.iload_n 2, 1) := by decide +kernel
theorem dX5_wouldChange_12 : decode cX5_wouldChange 12 = .ok (.invokevirtual 69, 3) := by decide +kernel
theorem dX5_wouldChange_15 : decode cX5_wouldChange 15 = .ok (.iadd, 1) := by decide +kernel
theorem dX5_wouldChange_16 : decode cX5_wouldChange 16 = .ok (.invokevirtual 48, 3) := by decide +kernel
theorem dX5_wouldChange_19 : decode cX5_wouldChange 19 = .ok (.if_icmp .le 7, 3) := by decide +kernel
theorem dX5_wouldChange_22 : decode cX5_wouldChange 22 = .ok (.iconst 1, 1) := by decide +kernel
theorem dX5_wouldChange_23 : decode cX5_wouldChange 23 = .ok (.goto 4, 3) := by decide +kernel
theorem dX5_wouldChange_26 : decode cX5_wouldChange 26 = .ok (.iconst 0, 1) := by decide +kernel
theorem dX5_wouldChange_27 : decode cX5_wouldChange 27 = .ok (.ireturn, 1) := by decide +kernel
set_option maxRecDepth 20000 in
theorem ggX5_filled_X5_bucketsOf : GoodIn wsX5_filled wsX5_bucketsOf := goodIn_r _ [5, 6, 7, 8, 4, 9, 10, 11, 12, 13, 14, 15, 16, 17, 18, 19, 20, 21, 22, 23] (by decide +kernel) (by decide +kernel)
set_option maxRecDepth 20000 in
theorem gX5_filled_X5_bucketsOf : GoodIn wsX5_filled (wsV RX5 59 RX5 yX5_bucketsOf wsX5_bucketsOf) := goodIn_app (goodIn_of _ (by decide +kernel)) ggX5_filled_X5_bucketsOf
set_option maxRecDepth 20000 in
theorem ggX5_filled_X5_part : GoodIn wsX5_filled wsX5_part := goodIn_r _ [9, 10, 11, 12, 13, 14, 15, 16, 17, 18, 19, 20, 21, 22, 23] (by decide +kernel) (by decide +kernel)
set_option maxRecDepth 20000 in
theorem gX5_filled_X5_part : GoodIn wsX5_filled (wsV RX5 48 RX5 yX5_part wsX5_part) := goodIn_app (goodIn_of _ (by decide +kernel)) ggX5_filled_X5_part
theorem dX5_filled_0 : decode cX5_filled 0 = .ok (.iconst 0, 1) := by decide +kernel
theorem dX5_filled_1 : decode cX5_filled 1 = .ok (.istore_n 2, 1) := by decide +kernel
theorem dX5_filled_2 : decode cX5_filled 2 = .ok (.iconst 0, 1) := by decide +kernel
theorem dX5_filled_3 : decode cX5_filled 3 = .ok (.istore_n 3, 1) := by decide +kernel
theorem dX5_filled_4 : decode cX5_filled 4 = .ok (.iload_n 3, 1) := by decide +kernel
theorem dX5_filled_5 : decode cX5_filled 5 = .ok (.aload_n 0, 1) := by decide +kernel
theorem dX5_filled_6 : decode cX5_filled 6 = .ok (.iload_n 1, 1) := by decide +kernel
theorem dX5_filled_7 : decode cX5_filled 7 = .ok (.invokevirtual 59, 3) := by decide +kernel
theorem dX5_filled_10 : decode cX5_filled 10 = .ok (.if_icmp .ge 28, 3) := by decide +kernel
theorem dX5_filled_13 : decode cX5_filled 13 = .ok (.iload_n 2, 1) := by decide +kernel
theorem dX5_filled_14 : decode cX5_filled 14 = .ok (.aload_n 0, 1) := by decide +kernel
theorem dX5_filled_15 : decode cX5_filled 15 = .ok (.iload_n 1, 1) := by decide +kernel
theorem dX5_filled_16 : decode cX5_filled 16 = .ok (.iconst 2, 1) := by decide +kernel
theorem dX5_filled_17 : decode cX5_filled 17 = .ok (.iload_n 3, 1) := by decide +kernel
theorem dX5_filled_18 : decode cX5_filled 18 = .ok (.iadd, 1) := by decide +kernel
theorem dX5_filled_19 : decode cX5_filled 19 = .ok (.invokevirtual 48, 3) := by decide +kernel
theorem dX5_filled_22 : decode cX5_filled 22 = .ok (.ifCond .le 7, 3) := by decide +kernel
theorem dX5_filled_25 : decode cX5_filled 25 = .ok (.iconst 1, 1) := by decide +kernel
theorem dX5_filled_26 : decode cX5_filled 26 = .ok (.goto 4, 3) := by decide +kernel
theorem dX5_filled_29 : decode cX5_filled 29 = .ok (.iconst 0, 1) := by decide +kernel
theorem dX5_filled_30 : decode cX5_filled 30 = .ok (.iadd, 1) := by decide +kernel
theorem dX5_filled_31 : decode cX5_filled 31 = .ok (.istore_n 2, 1) := by decide +kernel
theorem dX5_filled_32 : decode cX5_filled 32 = .ok (.iinc 3 1, 3) := by decide +kernel
theorem dX5_filled_35 : decode cX5_filled 35 = .ok (.goto (-31), 3) := by decide +kernel
theorem dX5_filled_38 : decode cX5_filled 38 = .ok (.iload_n 2, 1) := by decide +kernel
theorem dX5_filled_39 : decode cX5_filled 39 = .ok (.ireturn, 1) := by decide +kernel
set_option maxRecDepth 20000 in
theorem ggX5_allFilled_X5_filled : GoodIn wsX5_allFilled wsX5_filled := goodIn_r _ [5, 6, 7, 8, 4, 9, 10, 11, 12, 13, 14, 15, 16, 17, 18, 19, 20, 21, 22, 23, 24, 25, 26, 27] (by decide +kernel) (by decide +kernel)
set_option maxRecDepth 20000 in
theorem gX5_allFilled_X5_filled : GoodIn wsX5_allFilled (wsV RX5 72 RX5 yX5_filled wsX5_filled) := goodIn_app (goodIn_of _ (by decide +kernel)) ggX5_allFilled_X5_filled
theorem dX5_allFilled_0 : decode cX5_allFilled 0 = .ok (.iconst 0, 1) := by decide +kernel
theorem dX5_allFilled_1 : decode cX5_allFilled 1 = .ok (.istore_n 1, 1) := by decide +kernel
theorem dX5_allFilled_2 : decode cX5_allFilled 2 = .ok (.iconst 0, 1) := by decide +kernel
theorem dX5_allFilled_3 : decode cX5_allFilled 3 = .ok (.istore_n 2, 1) := by decide +kernel
theorem dX5_allFilled_4 : decode cX5_allFilled 4 = .ok (.iload_n 2, 1) := by decide +kernel
theorem dX5_allFilled_5 : decode cX5_allFilled 5 = .ok (.bipush 6, 2) := by decide +kernel
theorem dX5_allFilled_7 : decode cX5_allFilled 7 = .ok (.if_icmp .ge 17, 3) := by decide +kernel
theorem dX5_allFilled_10 : decode cX5_allFilled 10 = .ok (.iload_n 1, 1) := by decide +kernel
theorem dX5_allFilled_11 : decode cX5_allFilled 11 = .ok (.aload_n 0, 1) := by decide +kernel
theorem dX5_allFilled_12 : decode cX5_allFilled 12 = .ok (.iload_n 2, 1) := by decide +kernel
theorem dX5_allFilled_13 : decode cX5_allFilled 13 = .ok (.invokevirtual 72, 3) := by decide +kernel
theorem dX5_allFilled_16 : decode cX5_allFilled 16 = .ok (.iadd, 1) := by decide +kernel
theorem dX5_allFilled_17 : decode cX5_allFilled 17 = .ok (.istore_n 1, 1) := by decide +kernel
theorem dX5_allFilled_18 : decode cX5_allFilled 18 = .ok (.iinc 2 1, 3) := by decide +kernel
theorem dX5_allFilled_21 : decode cX5_allFilled 21 = .ok (.goto (-17), 3) := by decide +kernel
theorem dX5_allFilled_24 : decode cX5_allFilled 24 = .ok (.iload_n 1, 1) := by decide +kernel
theorem dX5_allFilled_25 : decode cX5_allFilled 25 = .ok (.ireturn, 1) := by decide +kernel
set_option maxRecDepth 20000 in
theorem ggX5_takeRanks_X5_part : GoodIn wsX5_takeRanks wsX5_part := goodIn_r _ [6, 7, 8, 9, 10, 11, 12, 13, 14, 15, 16, 17, 18, 19, 20] (by decide +kernel) (by decide +kernel)
set_option maxRecDepth 20000 in
theorem gX5_takeRanks_X5_part : GoodIn wsX5_takeRanks (wsV RX5 48 RX5 yX5_part wsX5_part) := goodIn_app (goodIn_of _ (by decide +kernel)) ggX5_takeRanks_X5_part
theorem dX5_takeRanks_0 : decode cX5_takeRanks 0 = .ok (.iconst 0, 1) := by decide +kernel
theorem dX5_takeRanks_1 : decode cX5_takeRanks 1 = .ok (.istore_n 2, 1) := by decide +kernel
theorem dX5_takeRanks_2 : decode cX5_takeRanks 2 = .ok (.iload_n 2, 1) := by decide +kernel
theorem dX5_takeRanks_3 : decode cX5_takeRanks 3 = .ok (.bipush 64, 2) := by decide +kernel
theorem dX5_takeRanks_5 : decode cX5_takeRanks 5 = .ok (.if_icmp .ge 23, 3) := by decide +kernel
theorem dX5_takeRanks_8 : decode cX5_takeRanks 8 = .ok (.aload_n 0, 1) := by decide +kernel
theorem dX5_takeRanks_9 : decode cX5_takeRanks 9 = .ok (.getfield 25, 3) := by decide +kernel
theorem dX5_takeRanks_12 : decode cX5_takeRanks 12 = .ok (.iload_n 2, 1) := by decide +kernel
theorem dX5_takeRanks_13 : decode cX5_takeRanks 13 = .ok (.aload_n 0, 1) := by decide +kernel
theorem dX5_takeRanks_14 : decode cX5_takeRanks 14 = .ok (.iload_n 1, 1) := by decide +kernel
theorem dX5_takeRanks_15 : decode cX5_takeRanks 15 = .ok (.iconst 2, 1) := by decide +kernel
theorem dX5_takeRanks_16 : decode cX5_takeRanks 16 = .ok (.iload_n 2, 1) := by decide +kernel
theorem dX5_takeRanks_17 : decode cX5_takeRanks 17 = .ok (.iadd, 1) := by decide +kernel
theorem dX5_takeRanks_18 : decode cX5_takeRanks 18 = .ok (.invokevirtual 48, 3) := by decide +kernel
theorem dX5_takeRanks_21 : decode cX5_takeRanks 21 = .ok (.iastore, 1) := by decide +kernel
theorem dX5_takeRanks_22 : decode cX5_takeRanks 22 = .ok (.iinc 2 1, 3) := by decide +kernel
theorem dX5_takeRanks_25 : decode cX5_takeRanks 25 = .ok (.goto (-23), 3) := by decide +kernel
theorem dX5_takeRanks_28 : decode cX5_takeRanks 28 = .ok (.return_, 1) := by decide +kernel
theorem dX5_sumBy_0 : decode cX5_sumBy 0 = .ok (.iconst 0, 1) := by decide +kernel
theorem dX5_sumBy_1 : decode cX5_sumBy 1 = .ok (.istore_n 2, 1) := by decide +kernel
theorem dX5_sumBy_2 : decode cX5_sumBy 2 = .ok (.iconst 0, 1) := by decide +kernel
theorem dX5_sumBy_3 : decode cX5_sumBy 3 = .ok (.istore_n 3, 1) := by decide +kernel
theorem dX5_sumBy_4 : decode cX5_sumBy 4 = .ok (.iload_n 3, 1) := by decide +kernel
theorem dX5_sumBy_5 : decode cX5_sumBy 5 = .ok (.iload_n 1, 1) := by decide +kernel
theorem dX5_sumBy_6 : decode cX5_sumBy 6 = .ok (.if_icmp .ge 21, 3) := by decide +kernel
theorem dX5_sumBy_9 : decode cX5_sumBy 9 = .ok (.iload_n 2, 1) := by decide +kernel
theorem dX5_sumBy_10 : decode cX5_sumBy 10 = .ok (.ldc 75, 2) := by decide +kernel
theorem dX5_sumBy_12 : decode cX5_sumBy 12 = .ok (.aload_n 0, 1) := by decide +kernel
theorem dX5_sumBy_13 : decode cX5_sumBy 13 = .ok (.getfield 25, 3) := by decide +kernel
theorem dX5_sumBy_16 : decode cX5_sumBy 16 = .ok (.iload_n 3, 1) := by decide +kernel
theorem dX5_sumBy_17 : decode cX5_sumBy 17 = .ok (.iaload, 1) := by decide +kernel
theorem dX5_sumBy_18 : decode cX5_sumBy 18 = .ok (.ishr, 1) := by decide +kernel
theorem dX5_sumBy_19 : decode cX5_sumBy 19 = .ok (.iadd, 1) := by decide +kernel
theorem dX5_sumBy_20 : decode cX5_sumBy 20 = .ok (.istore_n 2, 1) := by decide +kernel
theorem dX5_sumBy_21 : decode cX5_sumBy 21 = .ok (.iinc 3 1, 3) := by decide +kernel
theorem dX5_sumBy_24 : decode cX5_sumBy 24 = .ok (.goto (-20), 3) := by decide +kernel
theorem dX5_sumBy_27 : decode cX5_sumBy 27 = .ok (.iload_n 2, 1) := by decide +kernel
theorem dX5_sumBy_28 : decode cX5_sumBy 28 = .ok (.ireturn, 1) := by decide +kernel
theorem dX5_emptyBy_0 : decode cX5_emptyBy 0 = .ok (.iconst 0, 1) := by decide +kernel
theorem dX5_emptyBy_1 : decode cX5_emptyBy 1 = .ok (.istore_n 2, 1) := by decide +kernel
theorem dX5_emptyBy_2 : decode cX5_emptyBy 2 = .ok (.iconst 0, 1) := by decide +kernel
theorem dX5_emptyBy_3 : decode cX5_emptyBy 3 = .ok (.istore_n 3, 1) := by decide +kernel
theorem dX5_emptyBy_4 : decode cX5_emptyBy 4 = .ok (.iload_n 3, 1) := by decide +kernel
theorem dX5_emptyBy_5 : decode cX5_emptyBy 5 = .ok (.iload_n 1, 1) := by decide +kernel
theorem dX5_emptyBy_6 : decode cX5_emptyBy 6 = .ok (.if_icmp .ge 26, 3) := by decide +kernel
theorem dX5_emptyBy_9 : decode cX5_emptyBy 9 = .ok (.iload_n 2, 1) := by decide +kernel
theorem dX5_emptyBy_10 : decode cX5_emptyBy 10 = .ok (.aload_n 0, 1) := by decide +kernel
theorem dX5_emptyBy_11 : decode cX5_emptyBy 11 = .ok (.getfield 25, 3) := by decide +kernel
theorem dX5_emptyBy_14 : decode cX5_emptyBy 14 = .ok (.iload_n 3, 1) := by decide +kernel
theorem dX5_emptyBy_15 : decode cX5_emptyBy 15 = .ok (.iaload, 1) := by decide +kernel
theorem dX5_emptyBy_16 : decode cX5_emptyBy 16 = .ok (.ifCond .ne 7, 3) := by decide +kernel
theorem dX5_emptyBy_19 : decode cX5_emptyBy 19 = .ok (.iconst 1, 1) := by decide +kernel
theorem dX5_emptyBy_20 : decode cX5_emptyBy 20 = .ok (.goto 4, 3) := by decide +kernel
theorem dX5_emptyBy_23 : decode cX5_emptyBy 23 = .ok (.iconst 0, 1) := by decide +kernel
theorem dX5_emptyBy_24 : decode cX5_emptyBy 24 = .ok (.iadd, 1) := by decide +kernel
theorem dX5_emptyBy_25 : decode cX5_emptyBy 25 = .ok (.istore_n 2, 1) := by decide +kernel
theorem dX5_emptyBy_26 : decode cX5_emptyBy 26 = .ok (.iinc 3 1, 3) := by decide +kernel
theorem dX5_emptyBy_29 : decode cX5_emptyBy 29 = .ok (.goto (-25), 3) := by decide +kernel
theorem dX5_emptyBy_32 : decode cX5_emptyBy 32 = .ok (.iload_n 2, 1) := by decide +kernel
theorem dX5_emptyBy_33 : decode cX5_emptyBy 33 = .ok (.ireturn, 1) := by decide +kernel
set_option maxRecDepth 20000 in
theorem ggX5_rawBy_X5_sumBy : GoodIn wsX5_rawBy wsX5_sumBy := goodIn_r _ [8, 9, 10, 11, 12, 13, 14, 15, 16, 17, 18, 19, 20, 21, 22, 23] (by decide +kernel) (by decide +kernel)
set_option maxRecDepth 20000 in
theorem gX5_rawBy_X5_sumBy : GoodIn wsX5_rawBy (wsV RX5 80 RX5 yX5_sumBy wsX5_sumBy) := goodIn_app (goodIn_of _ (by decide +kernel)) ggX5_rawBy_X5_sumBy
theorem dX5_rawBy_0 : decode cX5_rawBy 0 = .ok (.iload_n 1, 1) := by decide +kernel
theorem dX5_rawBy_1 : decode cX5_rawBy 1 = .ok (.i2l, 1) := by decide +kernel
theorem dX5_rawBy_2 : decode cX5_rawBy 2 = .ok (.iload_n 1, 1) := by decide +kernel
theorem dX5_rawBy_3 : decode cX5_rawBy 3 = .ok (.i2l, 1) := by decide +kernel
theorem dX5_rawBy_4 : decode cX5_rawBy 4 = .ok (.lmul, 1) := by decide +kernel
theorem dX5_rawBy_5 : decode cX5_rawBy 5 = .ok (.ldc2_w 54, 3) := by decide +kernel
theorem dX5_rawBy_8 : decode cX5_rawBy 8 = .ok (.lmul, 1) := by decide +kernel
theorem dX5_rawBy_9 : decode cX5_rawBy 9 = .ok (.ldc2_w 76, 3) := by decide +kernel
theorem dX5_rawBy_12 : decode cX5_rawBy 12 = .ok (.lmul, 1) := by decide +kernel
theorem dX5_rawBy_13 : decode cX5_rawBy 13 = .ok (.ldc2_w 78, 3) := by decide +kernel
theorem dX5_rawBy_16 : decode cX5_rawBy 16 = .ok (.aload_n 0, 1) := by decide +kernel
theorem dX5_rawBy_17 : decode cX5_rawBy 17 = .ok (.iload_n 1, 1) := by decide +kernel
theorem dX5_rawBy_18 : decode cX5_rawBy 18 = .ok (.invokevirtual 80, 3) := by decide +kernel
theorem dX5_rawBy_21 : decode cX5_rawBy 21 = .ok (.i2l, 1) := by decide +kernel
theorem dX5_rawBy_22 : decode cX5_rawBy 22 = .ok (.lmul, 1) := by decide +kernel
theorem dX5_rawBy_23 : decode cX5_rawBy 23 = .ok (.ldiv, 1) := by decide +kernel
theorem dX5_rawBy_24 : decode cX5_rawBy 24 = .ok (.l2i, 1) := by decide +kernel
theorem dX5_rawBy_25 : decode cX5_rawBy 25 = .ok (.ireturn, 1) := by decide +kernel
set_option maxRecDepth 20000 in
theorem ggX5_estimateBy_X5_rawBy : GoodIn wsX5_estimateBy wsX5_rawBy := goodIn_r _ [5, 6, 7, 8, 9, 10, 11, 4, 12, 13, 14, 19, 20, 21, 22, 23, 24, 25, 26, 27, 28, 29, 30, 31] (by decide +kernel) (by decide +kernel)
set_option maxRecDepth 20000 in
theorem gX5_estimateBy_X5_rawBy : GoodIn wsX5_estimateBy (wsV RX5 83 RX5 yX5_rawBy wsX5_rawBy) := goodIn_app (goodIn_of _ (by decide +kernel)) ggX5_estimateBy_X5_rawBy
set_option maxRecDepth 20000 in
theorem ggX5_estimateBy_X5_emptyBy : GoodIn wsX5_estimateBy wsX5_emptyBy := goodIn_r _ [18, 14, 19, 20, 21, 22, 23, 24, 25, 26, 27, 28, 29, 30, 31] (by decide +kernel) (by decide +kernel)
set_option maxRecDepth 20000 in
theorem gX5_estimateBy_X5_emptyBy : GoodIn wsX5_estimateBy (wsV RX5 86 RX5 yX5_emptyBy wsX5_emptyBy) := goodIn_app (goodIn_of _ (by decide +kernel)) ggX5_estimateBy_X5_emptyBy
theorem dX5_estimateBy_0 : decode cX5_estimateBy 0 = .ok (.aload_n 0, 1) := by decide +kernel
theorem dX5_estimateBy_1 : decode cX5_estimateBy 1 = .ok (.iload_n 1, 1) := by decide +kernel
theorem dX5_estimateBy_2 : decode cX5_estimateBy 2 = .ok (.invokevirtual 83, 3) := by decide +kernel
theorem dX5_estimateBy_5 : decode cX5_estimateBy 5 = .ok (.istore_n 2, 1) := by decide +kernel
theorem dX5_estimateBy_6 : decode cX5_estimateBy 6 = .ok (.aload_n 0, 1) := by decide +kernel
theorem dX5_estimateBy_7 : decode cX5_estimateBy 7 = .ok (.iload_n 1, 1) := by decide +kernel
theorem dX5_estimateBy_8 : decode cX5_estimateBy 8 = .ok (.invokevirtual 86, 3) := by decide +kernel
theorem dX5_estimateBy_11 : decode cX5_estimateBy 11 = .ok (.istore_n 3, 1) := by decide +kernel
theorem dX5_estimateBy_12 : decode cX5_estimateBy 12 = .ok (.iload_n 2, 1) := by decide +kernel
theorem dX5_estimateBy_13 : decode cX5_estimateBy 13 = .ok (.iconst 5, 1) := by decide +kernel
theorem dX5_estimateBy_14 : decode cX5_estimateBy 14 = .ok (.iload_n 1, 1) := by decide +kernel
theorem dX5_estimateBy_15 : decode cX5_estimateBy 15 = .ok (.imul, 1) := by decide +kernel
theorem dX5_estimateBy_16 : decode cX5_estimateBy 16 = .ok (.iconst 2, 1) := by decide +kernel
theorem dX5_estimateBy_17 : decode cX5_estimateBy 17 = .ok (.idiv, 1) := by decide +kernel
theorem dX5_estimateBy_18 : decode cX5_estimateBy 18 = .ok (.if_icmp .gt 7, 3) := by decide +kernel
theorem dX5_estimateBy_21 : decode cX5_estimateBy 21 = .ok (.iload_n 3, 1) := by decide +kernel
theorem dX5_estimateBy_22 : decode cX5_estimateBy 22 = .ok (.ifCond .ne 5, 3) := by decide +kernel
theorem dX5_estimateBy_25 : decode cX5_estimateBy 25 = .ok (.iload_n 2, 1) := by decide +kernel
theorem dX5_estimateBy_26 : decode cX5_estimateBy 26 = .ok (.ireturn, 1) := by decide +kernel
theorem dX5_estimateBy_27 : decode cX5_estimateBy 27 = .ok (.iconst 0, 1) := by decide +kernel
theorem dX5_estimateBy_28 : decode cX5_estimateBy 28 = .ok (.istore 4, 2) := by decide +kernel
theorem dX5_estimateBy_30 : decode cX5_estimateBy 30 = .ok (.iload_n 3, 1) := by decide +kernel
theorem dX5_estimateBy_31 : decode cX5_estimateBy 31 = .ok (.iconst 1, 1) := by decide +kernel
theorem dX5_estimateBy_32 : decode cX5_estimateBy 32 = .ok (.iadd, 1) := by decide +kernel
theorem dX5_estimateBy_33 : decode cX5_estimateBy 33 = .ok (.istore 5, 2) := by decide +kernel
theorem dX5_estimateBy_35 : decode cX5_estimateBy 35 = .ok (.iload 5, 2) := by decide +kernel
theorem dX5_estimateBy_37 : decode cX5_estimateBy 37 = .ok (.iload_n 1, 1) := by decide +kernel
theorem dX5_estimateBy_38 : decode cX5_estimateBy 38 = .ok (.if_icmp .gt 18, 3) := by decide +kernel
theorem dX5_estimateBy_41 : decode cX5_estimateBy 41 = .ok (.iload 4, 2) := by decide +kernel
theorem dX5_estimateBy_43 : decode cX5_estimateBy 43 = .ok (.iload_n 1, 1) := by decide +kernel
theorem dX5_estimateBy_44 : decode cX5_estimateBy 44 = .ok (.iload 5, 2) := by decide +kernel
theorem dX5_estimateBy_46 : decode cX5_estimateBy 46 = .ok (.idiv, 1) := by decide +kernel
theorem dX5_estimateBy_47 : decode cX5_estimateBy 47 = .ok (.iadd, 1) := by decide +kernel
theorem dX5_estimateBy_48 : decode cX5_estimateBy 48 = .ok (.istore 4, 2) := by decide +kernel
theorem dX5_estimateBy_50 : decode cX5_estimateBy 50 = .ok (.iinc 5 1, 3) := by decide +kernel
theorem dX5_estimateBy_53 : decode cX5_estimateBy 53 = .ok (.goto (-18), 3) := by decide +kernel
theorem dX5_estimateBy_56 : decode cX5_estimateBy 56 = .ok (.iload 4, 2) := by decide +kernel
theorem dX5_estimateBy_58 : decode cX5_estimateBy 58 = .ok (.ireturn, 1) := by decide +kernel
set_option maxRecDepth 20000 in
theorem ggX5_estimateOf_X5_takeRanks : GoodIn wsX5_estimateOf wsX5_takeRanks := goodIn_r _ [5, 6, 7, 8, 9, 4, 10, 11, 36, 37, 38, 39, 40, 41, 42, 43, 44, 45, 46, 47, 48] (by decide +kernel) (by decide +kernel)
set_option maxRecDepth 20000 in
theorem gX5_estimateOf_X5_takeRanks : GoodIn wsX5_estimateOf (wsV RX5 89 RX5 yX5_takeRanks wsX5_takeRanks) := goodIn_app (goodIn_of _ (by decide +kernel)) ggX5_estimateOf_X5_takeRanks
set_option maxRecDepth 20000 in
theorem ggX5_estimateOf_X5_bucketsOf : GoodIn wsX5_estimateOf wsX5_bucketsOf := goodIn_r _ [15, 7, 8, 9, 4, 10, 11, 36, 37, 38, 39, 40, 41, 42, 43, 44, 45, 46, 47, 48] (by decide +kernel) (by decide +kernel)
set_option maxRecDepth 20000 in
theorem gX5_estimateOf_X5_bucketsOf : GoodIn wsX5_estimateOf (wsV RX5 59 RX5 yX5_bucketsOf wsX5_bucketsOf) := goodIn_app (goodIn_of _ (by decide +kernel)) ggX5_estimateOf_X5_bucketsOf
set_option maxRecDepth 20000 in
theorem ggX5_estimateOf_X5_estimateBy : GoodIn wsX5_estimateOf wsX5_estimateBy := goodIn_r _ [19, 20, 21, 22, 4, 23, 24, 25, 26, 27, 28, 29, 30, 31, 6, 32, 33, 34, 35, 36, 37, 38, 39, 40, 41, 42, 43, 44, 45, 46, 47, 48] (by decide +kernel) (by decide +kernel)
set_option maxRecDepth 20000 in
theorem gX5_estimateOf_X5_estimateBy : GoodIn wsX5_estimateOf (wsV RX5 93 RX5 yX5_estimateBy wsX5_estimateBy) := goodIn_app (goodIn_of _ (by decide +kernel)) ggX5_estimateOf_X5_estimateBy
theorem dX5_estimateOf_0 : decode cX5_estimateOf 0 = .ok (.aload_n 0, 1) := by decide +kernel
theorem dX5_estimateOf_1 : decode cX5_estimateOf 1 = .ok (.iload_n 1, 1) := by decide +kernel
theorem dX5_estimateOf_2 : decode cX5_estimateOf 2 = .ok (.invokevirtual 89, 3) := by decide +kernel
theorem dX5_estimateOf_5 : decode cX5_estimateOf 5 = .ok (.aload_n 0, 1) := by decide +kernel
theorem dX5_estimateOf_6 : decode cX5_estimateOf 6 = .ok (.aload_n 0, 1) := by decide +kernel
theorem dX5_estimateOf_7 : decode cX5_estimateOf 7 = .ok (.iload_n 1, 1) := by decide +kernel
theorem dX5_estimateOf_8 : decode cX5_estimateOf 8 = .ok (.invokevirtual 59, 3) := by decide +kernel
theorem dX5_estimateOf_11 : decode cX5_estimateOf 11 = .ok (.invokevirtual 93, 3) := by decide +kernel
theorem dX5_estimateOf_14 : decode cX5_estimateOf 14 = .ok (.ireturn, 1) := by decide +kernel
set_option maxRecDepth 20000 in
theorem ggX5_errorOf_X5_bucketsOf : GoodIn wsX5_errorOf wsX5_bucketsOf := goodIn_r _ [5, 6, 7, 8, 4, 9, 10, 40, 41, 42, 43, 44, 45, 46, 47, 48, 49, 50, 51, 52] (by decide +kernel) (by decide +kernel)
set_option maxRecDepth 20000 in
theorem gX5_errorOf_X5_bucketsOf : GoodIn wsX5_errorOf (wsV RX5 59 RX5 yX5_bucketsOf wsX5_bucketsOf) := goodIn_app (goodIn_of _ (by decide +kernel)) ggX5_errorOf_X5_bucketsOf
set_option maxRecDepth 20000 in
theorem ggX5_errorOf_X5_estimateOf : GoodIn wsX5_errorOf wsX5_estimateOf := goodIn_r _ [14, 15, 16, 17, 4, 18, 19, 6, 7, 8, 9, 10, 1, 2, 3, 5, 20, 21, 22, 23, 24, 25, 26, 27, 28, 29, 30, 31, 32, 33, 34, 35, 36, 37, 38, 39, 40, 41, 42, 43, 44, 45, 46, 47, 48, 49, 50, 51, 52] (by decide +kernel) (by decide +kernel)
set_option maxRecDepth 20000 in
theorem gX5_errorOf_X5_estimateOf : GoodIn wsX5_errorOf (wsV RX5 96 RX5 yX5_estimateOf wsX5_estimateOf) := goodIn_app (goodIn_of _ (by decide +kernel)) ggX5_errorOf_X5_estimateOf
theorem dX5_errorOf_0 : decode cX5_errorOf 0 = .ok (.iconst 1, 1) := by decide +kernel
theorem dX5_errorOf_1 : decode cX5_errorOf 1 = .ok (.istore_n 2, 1) := by decide +kernel
theorem dX5_errorOf_2 : decode cX5_errorOf 2 = .ok (.iload_n 2, 1) := by decide +kernel
theorem dX5_errorOf_3 : decode cX5_errorOf 3 = .ok (.iconst 1, 1) := by decide +kernel
theorem dX5_errorOf_4 : decode cX5_errorOf 4 = .ok (.iadd, 1) := by decide +kernel
theorem dX5_errorOf_5 : decode cX5_errorOf 5 = .ok (.iload_n 2, 1) := by decide +kernel
theorem dX5_errorOf_6 : decode cX5_errorOf 6 = .ok (.iconst 1, 1) := by decide +kernel
theorem dX5_errorOf_7 : decode cX5_errorOf 7 = .ok (.iadd, 1) := by decide +kernel
theorem dX5_errorOf_8 : decode cX5_errorOf 8 = .ok (.imul, 1) := by decide +kernel
theorem dX5_errorOf_9 : decode cX5_errorOf 9 = .ok (.aload_n 0, 1) := by decide +kernel
theorem dX5_errorOf_10 : decode cX5_errorOf 10 = .ok (.iload_n 1, 1) := by decide +kernel
theorem dX5_errorOf_11 : decode cX5_errorOf 11 = .ok (.invokevirtual 59, 3) := by decide +kernel
theorem dX5_errorOf_14 : decode cX5_errorOf 14 = .ok (.if_icmp .gt 9, 3) := by decide +kernel
theorem dX5_errorOf_17 : decode cX5_errorOf 17 = .ok (.iinc 2 1, 3) := by decide +kernel
theorem dX5_errorOf_20 : decode cX5_errorOf 20 = .ok (.goto (-18), 3) := by decide +kernel
theorem dX5_errorOf_23 : decode cX5_errorOf 23 = .ok (.aload_n 0, 1) := by decide +kernel
theorem dX5_errorOf_24 : decode cX5_errorOf 24 = .ok (.iload_n 1, 1) := by decide +kernel
theorem dX5_errorOf_25 : decode cX5_errorOf 25 = .ok (.invokevirtual 96, 3) := by decide +kernel
theorem dX5_errorOf_28 : decode cX5_errorOf 28 = .ok (.bipush 104, 2) := by decide +kernel
theorem dX5_errorOf_30 : decode cX5_errorOf 30 = .ok (.imul, 1) := by decide +kernel
theorem dX5_errorOf_31 : decode cX5_errorOf 31 = .ok (.bipush 100, 2) := by decide +kernel
theorem dX5_errorOf_33 : decode cX5_errorOf 33 = .ok (.iload_n 2, 1) := by decide +kernel
theorem dX5_errorOf_34 : decode cX5_errorOf 34 = .ok (.imul, 1) := by decide +kernel
theorem dX5_errorOf_35 : decode cX5_errorOf 35 = .ok (.idiv, 1) := by decide +kernel
theorem dX5_errorOf_36 : decode cX5_errorOf 36 = .ok (.ireturn, 1) := by decide +kernel
set_option maxRecDepth 20000 in
theorem ggX5_isFull_X5_part : GoodIn wsX5_isFull wsX5_part := goodIn_r _ [5, 6, 7, 8, 9, 10, 11, 12, 13, 14, 15, 16, 17, 18, 19] (by decide +kernel) (by decide +kernel)
set_option maxRecDepth 20000 in
theorem gX5_isFull_X5_part : GoodIn wsX5_isFull (wsV RX5 48 RX5 yX5_part wsX5_part) := goodIn_app (goodIn_of _ (by decide +kernel)) ggX5_isFull_X5_part
theorem dX5_isFull_0 : decode cX5_isFull 0 = .ok (.aload_n 0, 1) := by decide +kernel
theorem dX5_isFull_1 : decode cX5_isFull 1 = .ok (.iload_n 1, 1) := by decide +kernel
theorem dX5_isFull_2 : decode cX5_isFull 2 = .ok (.iconst 1, 1) := by decide +kernel
theorem dX5_isFull_3 : decode cX5_isFull 3 = .ok (.invokevirtual 48, 3) := by decide +kernel
theorem dX5_isFull_6 : decode cX5_isFull 6 = .ok (.bipush (-6), 2) := by decide +kernel
theorem dX5_isFull_8 : decode cX5_isFull 8 = .ok (.if_icmp .ne 7, 3) := by decide +kernel
theorem dX5_isFull_11 : decode cX5_isFull 11 = .ok (.iconst 1, 1) := by decide +kernel
theorem dX5_isFull_12 : decode cX5_isFull 12 = .ok (.goto 4, 3) := by decide +kernel
theorem dX5_isFull_15 : decode cX5_isFull 15 = .ok (.iconst 0, 1) := by decide +kernel
theorem dX5_isFull_16 : decode cX5_isFull 16 = .ok (.ireturn, 1) := by decide +kernel
set_option maxRecDepth 20000 in
theorem ggX5_isListed_X5_part : GoodIn wsX5_isListed wsX5_part := goodIn_r _ [5, 6, 7, 8, 9, 10, 11, 12, 13, 14, 15, 16, 17, 18, 19] (by decide +kernel) (by decide +kernel)
set_option maxRecDepth 20000 in
theorem gX5_isListed_X5_part : GoodIn wsX5_isListed (wsV RX5 48 RX5 yX5_part wsX5_part) := goodIn_app (goodIn_of _ (by decide +kernel)) ggX5_isListed_X5_part
theorem dX5_isListed_0 : decode cX5_isListed 0 = .ok (.iconst 0, 1) := by decide +kernel
theorem dX5_isListed_1 : decode cX5_isListed 1 = .ok (.istore_n 3, 1) := by decide +kernel
theorem dX5_isListed_2 : decode cX5_isListed 2 = .ok (.iconst 0, 1) := by decide +kernel
theorem dX5_isListed_3 : decode cX5_isListed 3 = .ok (.istore 4, 2) := by decide +kernel
theorem dX5_isListed_5 : decode cX5_isListed 5 = .ok (.iload 4, 2) := by decide +kernel
theorem dX5_isListed_7 : decode cX5_isListed 7 = .ok (.aload_n 0, 1) := by decide +kernel
theorem dX5_isListed_8 : decode cX5_isListed 8 = .ok (.iload_n 1, 1) := by decide +kernel
theorem dX5_isListed_9 : decode cX5_isListed 9 = .ok (.iconst 1, 1) := by decide +kernel
theorem dX5_isListed_10 : decode cX5_isListed 10 = .ok (.invokevirtual 48, 3) := by decide +kernel
theorem dX5_isListed_13 : decode cX5_isListed 13 = .ok (.if_icmp .ge 33, 3) := by decide +kernel
theorem dX5_isListed_16 : decode cX5_isListed 16 = .ok (.iload_n 3, 1) := by decide +kernel
theorem dX5_isListed_17 : decode cX5_isListed 17 = .ok (.ifCond .ne 17, 3) := by decide +kernel
theorem dX5_isListed_20 : decode cX5_isListed 20 = .ok (.aload_n 0, 1) := by decide +kernel
theorem dX5_isListed_21 : decode cX5_isListed 21 = .ok (.iload_n 1, 1) := by decide +kernel
theorem dX5_isListed_22 : decode cX5_isListed 22 = .ok (.bipush 66, 2) := by decide +kernel
theorem dX5_isListed_24 : decode cX5_isListed 24 = .ok (.iload 4, 2) := by decide +kernel
theorem dX5_isListed_26 : decode cX5_isListed 26 = .ok (.iadd, 1) := by decide +kernel
theorem dX5_isListed_27 : decode cX5_isListed 27 = .ok (.invokevirtual 48, 3) := by decide +kernel
theorem dX5_isListed_30 : decode cX5_isListed 30 = .ok (.iload_n 2, 1) := by decide +kernel
theorem dX5_isListed_31 : decode cX5_isListed 31 = .ok (.if_icmp .ne 7, 3) := by decide +kernel
theorem dX5_isListed_34 : decode cX5_isListed 34 = .ok (.iconst 1, 1) := by decide +kernel
theorem dX5_isListed_35 : decode cX5_isListed 35 = .ok (.goto 4, 3) := by decide +kernel
theorem dX5_isListed_38 : decode cX5_isListed 38 = .ok (.iconst 0, 1) := by decide +kernel
theorem dX5_isListed_39 : decode cX5_isListed 39 = .ok (.istore_n 3, 1) := by decide +kernel
theorem dX5_isListed_40 : decode cX5_isListed 40 = .ok (.iinc 4 1, 3) := by decide +kernel
theorem dX5_isListed_43 : decode cX5_isListed 43 = .ok (.goto (-38), 3) := by decide +kernel
theorem dX5_isListed_46 : decode cX5_isListed 46 = .ok (.iload_n 3, 1) := by decide +kernel
theorem dX5_isListed_47 : decode cX5_isListed 47 = .ok (.ireturn, 1) := by decide +kernel
set_option maxRecDepth 20000 in
theorem ggX5_becomesFull_X5_setPart : GoodIn wsX5_becomesFull wsX5_setPart := goodIn_r _ [5, 6, 7, 8, 9, 10, 11, 12, 13, 14, 15, 16, 17, 18, 19] (by decide +kernel) (by decide +kernel)
set_option maxRecDepth 20000 in
theorem gX5_becomesFull_X5_setPart : GoodIn wsX5_becomesFull (wsV RX5 31 RX5 yX5_setPart wsX5_setPart) := goodIn_app (goodIn_of _ (by decide +kernel)) ggX5_becomesFull_X5_setPart
theorem dX5_becomesFull_0 : decode cX5_becomesFull 0 = .ok (.aload_n 0, 1) := by decide +kernel
theorem dX5_becomesFull_1 : decode cX5_becomesFull 1 = .ok (.iload_n 1, 1) := by decide +kernel
theorem dX5_becomesFull_2 : decode cX5_becomesFull 2 = .ok (.iconst 1, 1) := by decide +kernel
theorem dX5_becomesFull_3 : decode cX5_becomesFull 3 = .ok (.bipush (-6), 2) := by decide +kernel
theorem dX5_becomesFull_5 : decode cX5_becomesFull 5 = .ok (.invokevirtual 31, 3) := by decide +kernel
theorem dX5_becomesFull_8 : decode cX5_becomesFull 8 = .ok (.iconst 0, 1) := by decide +kernel
theorem dX5_becomesFull_9 : decode cX5_becomesFull 9 = .ok (.istore_n 2, 1) := by decide +kernel
theorem dX5_becomesFull_10 : decode cX5_becomesFull 10 = .ok (.iload_n 2, 1) := by decide +kernel
theorem dX5_becomesFull_11 : decode cX5_becomesFull 11 = .ok (.bipush 40, 2) := by decide +kernel
theorem dX5_becomesFull_13 : decode cX5_becomesFull 13 = .ok (.if_icmp .ge 19, 3) := by decide +kernel
theorem dX5_becomesFull_16 : decode cX5_becomesFull 16 = .ok (.aload_n 0, 1) := by decide +kernel
theorem dX5_becomesFull_17 : decode cX5_becomesFull 17 = .ok (.iload_n 1, 1) := by decide +kernel
theorem dX5_becomesFull_18 : decode cX5_becomesFull 18 = .ok (.bipush 66, 2) := by decide +kernel
theorem dX5_becomesFull_20 : decode cX5_becomesFull 20 = .ok (.iload_n 2, 1) := by decide +kernel
theorem dX5_becomesFull_21 : decode cX5_becomesFull 21 = .ok (.iadd, 1) := by decide +kernel
theorem dX5_becomesFull_22 : decode cX5_becomesFull 22 = .ok (.iconst 0, 1) := by decide +kernel
theorem dX5_becomesFull_23 : decode cX5_becomesFull 23 = .ok (.invokevirtual 31, 3) := by decide +kernel
theorem dX5_becomesFull_26 : decode cX5_becomesFull 26 = .ok (.iinc 2 1, 3) := by decide +kernel
theorem dX5_becomesFull_29 : decode cX5_becomesFull 29 = .ok (.goto (-19), 3) := by decide +kernel
theorem dX5_becomesFull_32 : decode cX5_becomesFull 32 = .ok (.return_, 1) := by decide +kernel
set_option maxRecDepth 20000 in
theorem ggX5_lists_X5_isFull : GoodIn wsX5_lists wsX5_isFull := goodIn_r _ [5, 6, 7, 8, 4, 9, 10, 23, 24, 25, 26, 27, 28, 29, 30, 31, 32, 33, 34, 35] (by decide +kernel) (by decide +kernel)
set_option maxRecDepth 20000 in
theorem gX5_lists_X5_isFull : GoodIn wsX5_lists (wsV RX5 99 RX5 yX5_isFull wsX5_isFull) := goodIn_app (goodIn_of _ (by decide +kernel)) ggX5_lists_X5_isFull
set_option maxRecDepth 20000 in
theorem ggX5_lists_X5_isListed : GoodIn wsX5_lists wsX5_isListed := goodIn_r _ [14, 6, 7, 8, 4, 9, 10, 23, 24, 25, 26, 27, 28, 29, 30, 31, 32, 33, 34, 35] (by decide +kernel) (by decide +kernel)
set_option maxRecDepth 20000 in
theorem gX5_lists_X5_isListed : GoodIn wsX5_lists (wsV RX5 103 RX5 yX5_isListed wsX5_isListed) := goodIn_app (goodIn_of _ (by decide +kernel)) ggX5_lists_X5_isListed
set_option maxRecDepth 20000 in
theorem ggX5_lists_X5_part : GoodIn wsX5_lists wsX5_part := goodIn_r _ [9, 10, 23, 24, 25, 26, 27, 28, 29, 30, 31, 32, 33, 34, 35] (by decide +kernel) (by decide +kernel)
set_option maxRecDepth 20000 in
theorem gX5_lists_X5_part : GoodIn wsX5_lists (wsV RX5 48 RX5 yX5_part wsX5_part) := goodIn_app (goodIn_of _ (by decide +kernel)) ggX5_lists_X5_part
set_option maxRecDepth 20000 in
theorem ggX5_lists_X5_becomesFull : GoodIn wsX5_lists wsX5_becomesFull := goodIn_r _ [18, 19, 20, 21, 4, 22, 10, 23, 24, 25, 26, 27, 28, 29, 30, 31, 32, 33, 34, 35] (by decide +kernel) (by decide +kernel)
set_option maxRecDepth 20000 in
theorem gX5_lists_X5_becomesFull : GoodIn wsX5_lists (wsV RX5 107 RX5 yX5_becomesFull wsX5_becomesFull) := goodIn_app (goodIn_of _ (by decide +kernel)) ggX5_lists_X5_becomesFull
set_option maxRecDepth 20000 in
theorem ggX5_lists_X5_setPart : GoodIn wsX5_lists wsX5_setPart := goodIn_r _ [22, 10, 23, 24, 25, 26, 27, 28, 29, 30, 31, 32, 33, 34, 35] (by decide +kernel) (by decide +kernel)
set_option maxRecDepth 20000 in
theorem gX5_lists_X5_setPart : GoodIn wsX5_lists (wsV RX5 31 RX5 yX5_setPart wsX5_setPart) := goodIn_app (goodIn_of _ (by decide +kernel)) ggX5_lists_X5_setPart
theorem dX5_lists_0 : decode cX5_lists 0 = .ok (.aload_n 0, 1) := by decide +kernel
theorem dX5_lists_1 : decode cX5_lists 1 = .ok (.iload_n 1, 1) := by decide +kernel
theorem dX5_lists_2 : decode cX5_lists 2 = .ok (.invokevirtual 99, 3) := by decide +kernel
theorem dX5_lists_5 : decode cX5_lists 5 = .ok (.ifCond .ne 12, 3) := by decide +kernel
theorem dX5_lists_8 : decode cX5_lists 8 = .ok (.aload_n 0, 1) := by decide +kernel
theorem dX5_lists_9 : decode cX5_lists 9 = .ok (.iload_n 1, 1) := by decide +kernel
theorem dX5_lists_10 : decode cX5_lists 10 = .ok (.iload_n 2, 1) := by decide +kernel
theorem dX5_lists_11 : decode cX5_lists 11 = .ok (.invokevirtual 103, 3) := by decide +kernel
theorem dX5_lists_14 : decode cX5_lists 14 = .ok (.ifCond .eq 4, 3) := by decide +kernel
theorem dX5_lists_17 : decode cX5_lists 17 = .ok (.return_, 1) := by decide +kernel
theorem dX5_lists_18 : decode cX5_lists 18 = .ok (.aload_n 0, 1) := by decide +kernel
theorem dX5_lists_19 : decode cX5_lists 19 = .ok (.iload_n 1, 1) := by decide +kernel
theorem dX5_lists_20 : decode cX5_lists 20 = .ok (.iconst 1, 1) := by decide +kernel
theorem dX5_lists_21 : decode cX5_lists 21 = .ok (.invokevirtual 48, 3) := by decide +kernel
theorem dX5_lists_24 : decode cX5_lists 24 = .ok (.istore_n 3, 1) := by decide +kernel
theorem dX5_lists_25 : decode cX5_lists 25 = .ok (.iload_n 3, 1) := by decide +kernel
theorem dX5_lists_26 : decode cX5_lists 26 = .ok (.bipush 40, 2) := by decide +kernel
theorem dX5_lists_28 : decode cX5_lists 28 = .ok (.if_icmp .ne 11, 3) := by decide +kernel
theorem dX5_lists_31 : decode cX5_lists 31 = .ok (.aload_n 0, 1) := by decide +kernel
theorem dX5_lists_32 : decode cX5_lists 32 = .ok (.iload_n 1, 1) := by decide +kernel
theorem dX5_lists_33 : decode cX5_lists 33 = .ok (.invokevirtual 107, 3) := by decide +kernel
theorem dX5_lists_36 : decode cX5_lists 36 = .ok (.goto 22, 3) := by decide +kernel
theorem dX5_lists_39 : decode cX5_lists 39 = .ok (.aload_n 0, 1) := by decide +kernel
theorem dX5_lists_40 : decode cX5_lists 40 = .ok (.iload_n 1, 1) := by decide +kernel
theorem dX5_lists_41 : decode cX5_lists 41 = .ok (.bipush 66, 2) := by decide +kernel
theorem dX5_lists_43 : decode cX5_lists 43 = .ok (.iload_n 3, 1) := by decide +kernel
theorem dX5_lists_44 : decode cX5_lists 44 = .ok (.iadd, 1) := by decide +kernel
theorem dX5_lists_45 : decode cX5_lists 45 = .ok (.iload_n 2, 1) := by decide +kernel
theorem dX5_lists_46 : decode cX5_lists 46 = .ok (.invokevirtual 31, 3) := by decide +kernel
theorem dX5_lists_49 : decode cX5_lists 49 = .ok (.aload_n 0, 1) := by decide +kernel
theorem dX5_lists_50 : decode cX5_lists 50 = .ok (.iload_n 1, 1) := by decide +kernel
theorem dX5_lists_51 : decode cX5_lists 51 = .ok (.iconst 1, 1) := by decide +kernel
theorem dX5_lists_52 : decode cX5_lists 52 = .ok (.iload_n 3, 1) := by decide +kernel
theorem dX5_lists_53 : decode cX5_lists 53 = .ok (.iconst 1, 1) := by decide +kernel
theorem dX5_lists_54 : decode cX5_lists 54 = .ok (.iadd, 1) := by decide +kernel
theorem dX5_lists_55 : decode cX5_lists 55 = .ok (.invokevirtual 31, 3) := by decide +kernel
theorem dX5_lists_58 : decode cX5_lists 58 = .ok (.return_, 1) := by decide +kernel
set_option maxRecDepth 20000 in
theorem ggX5_empties_X5_filled : GoodIn wsX5_empties wsX5_filled := goodIn_r _ [5, 6, 7, 8, 4, 9, 10, 11, 12, 13, 14, 19, 20, 21, 22, 23, 24, 25, 26, 27, 28, 29, 30, 31] (by decide +kernel) (by decide +kernel)
set_option maxRecDepth 20000 in
theorem gX5_empties_X5_filled : GoodIn wsX5_empties (wsV RX5 72 RX5 yX5_filled wsX5_filled) := goodIn_app (goodIn_of _ (by decide +kernel)) ggX5_empties_X5_filled
set_option maxRecDepth 20000 in
theorem ggX5_empties_X5_setPart : GoodIn wsX5_empties wsX5_setPart := goodIn_r _ [18, 14, 19, 20, 21, 22, 23, 24, 25, 26, 27, 28, 29, 30, 31] (by decide +kernel) (by decide +kernel)
set_option maxRecDepth 20000 in
theorem gX5_empties_X5_setPart : GoodIn wsX5_empties (wsV RX5 31 RX5 yX5_setPart wsX5_setPart) := goodIn_app (goodIn_of _ (by decide +kernel)) ggX5_empties_X5_setPart
theorem dX5_empties_0 : decode cX5_empties 0 = .ok (.aload_n 0, 1) := by decide +kernel
theorem dX5_empties_1 : decode cX5_empties 1 = .ok (.iload_n 1, 1) := by decide +kernel
theorem dX5_empties_2 : decode cX5_empties 2 = .ok (.invokevirtual 72, 3) := by decide +kernel
theorem dX5_empties_5 : decode cX5_empties 5 = .ok (.istore_n 2, 1) := by decide +kernel
theorem dX5_empties_6 : decode cX5_empties 6 = .ok (.iconst 1, 1) := by decide +kernel
theorem dX5_empties_7 : decode cX5_empties 7 = .ok (.istore_n 3, 1) := by decide +kernel
theorem dX5_empties_8 : decode cX5_empties 8 = .ok (.iload_n 3, 1) := by decide +kernel
theorem dX5_empties_9 : decode cX5_empties 9 = .ok (.bipush 106, 2) := by decide +kernel
theorem dX5_empties_11 : decode cX5_empties 11 = .ok (.if_icmp .ge 16, 3) := by decide +kernel
theorem dX5_empties_14 : decode cX5_empties 14 = .ok (.aload_n 0, 1) := by decide +kernel
theorem dX5_empties_15 : decode cX5_empties 15 = .ok (.iload_n 1, 1) := by decide +kernel
theorem dX5_empties_16 : decode cX5_empties 16 = .ok (.iload_n 3, 1) := by decide +kernel
theorem dX5_empties_17 : decode cX5_empties 17 = .ok (.iconst 0, 1) := by decide +kernel
theorem dX5_empties_18 : decode cX5_empties 18 = .ok (.invokevirtual 31, 3) := by decide +kernel
theorem dX5_empties_21 : decode cX5_empties 21 = .ok (.iinc 3 1, 3) := by decide +kernel
theorem dX5_empties_24 : decode cX5_empties 24 = .ok (.goto (-16), 3) := by decide +kernel
theorem dX5_empties_27 : decode cX5_empties 27 = .ok (.iload_n 2, 1) := by decide +kernel
theorem dX5_empties_28 : decode cX5_empties 28 = .ok (.ireturn, 1) := by decide +kernel
set_option maxRecDepth 20000 in
theorem ggX5_adds_X5_wouldChange : GoodIn wsX5_adds wsX5_wouldChange := goodIn_r _ [5, 6, 7, 8, 4, 9, 10, 11, 12, 13, 14, 15, 16, 17, 18, 19, 20, 21, 22, 23, 24, 25, 26, 27, 28, 29, 30, 51, 52, 53, 54, 55, 56, 57, 58, 59, 60, 61, 62, 63] (by decide +kernel) (by decide +kernel)
set_option maxRecDepth 20000 in
theorem gX5_adds_X5_wouldChange : GoodIn wsX5_adds (wsV RX5 110 RX5 yX5_wouldChange wsX5_wouldChange) := goodIn_app (goodIn_of _ (by decide +kernel)) ggX5_adds_X5_wouldChange
set_option maxRecDepth 20000 in
theorem ggX5_adds_X5_bucketOf : GoodIn wsX5_adds wsX5_bucketOf := goodIn_r _ [26, 10, 11, 12, 4, 13, 14, 15, 27, 28, 29, 30, 16, 17, 18, 19, 51, 52, 53, 54, 55, 56, 57, 58, 59, 60, 61, 62, 63] (by decide +kernel) (by decide +kernel)
set_option maxRecDepth 20000 in
theorem gX5_adds_X5_bucketOf : GoodIn wsX5_adds (wsV RX5 69 RX5 yX5_bucketOf wsX5_bucketOf) := goodIn_app (goodIn_of _ (by decide +kernel)) ggX5_adds_X5_bucketOf
set_option maxRecDepth 20000 in
theorem ggX5_adds_X5_rankIn : GoodIn wsX5_adds wsX5_rankIn := goodIn_r _ [9, 10, 11, 12, 4, 13, 14, 15, 16, 17, 18, 19, 20, 21, 22, 51, 52, 53, 54, 55, 56, 57, 58, 59, 60, 61, 62, 63] (by decide +kernel) (by decide +kernel)
set_option maxRecDepth 20000 in
theorem gX5_adds_X5_rankIn : GoodIn wsX5_adds (wsV RX5 66 RX5 yX5_rankIn wsX5_rankIn) := goodIn_app (goodIn_of _ (by decide +kernel)) ggX5_adds_X5_rankIn
set_option maxRecDepth 20000 in
theorem ggX5_adds_X5_setPart : GoodIn wsX5_adds wsX5_setPart := goodIn_r _ [34, 10, 51, 52, 53, 54, 55, 56, 57, 58, 59, 60, 61, 62, 63] (by decide +kernel) (by decide +kernel)
set_option maxRecDepth 20000 in
theorem gX5_adds_X5_setPart : GoodIn wsX5_adds (wsV RX5 31 RX5 yX5_setPart wsX5_setPart) := goodIn_app (goodIn_of _ (by decide +kernel)) ggX5_adds_X5_setPart
set_option maxRecDepth 20000 in
theorem ggX5_adds_X5_lists : GoodIn wsX5_adds wsX5_lists := goodIn_r _ [38, 39, 40, 41, 4, 42, 16, 17, 18, 19, 10, 43, 44, 45, 46, 47, 48, 49, 50, 31, 32, 33, 34, 51, 52, 53, 54, 55, 56, 57, 58, 59, 60, 61, 62, 63] (by decide +kernel) (by decide +kernel)
set_option maxRecDepth 20000 in
theorem gX5_adds_X5_lists : GoodIn wsX5_adds (wsV RX5 113 RX5 yX5_lists wsX5_lists) := goodIn_app (goodIn_of _ (by decide +kernel)) ggX5_adds_X5_lists
theorem dX5_adds_0 : decode cX5_adds 0 = .ok (.aload_n 0, 1) := by decide +kernel
theorem dX5_adds_1 : decode cX5_adds 1 = .ok (.iload_n 1, 1) := by decide +kernel
theorem dX5_adds_2 : decode cX5_adds 2 = .ok (.iload_n 2, 1) := by decide +kernel
theorem dX5_adds_3 : decode cX5_adds 3 = .ok (.invokevirtual 110, 3) := by decide +kernel
theorem dX5_adds_6 : decode cX5_adds 6 = .ok (.istore_n 3, 1) := by decide +kernel
theorem dX5_adds_7 : decode cX5_adds 7 = .ok (.iload_n 3, 1) := by decide +kernel
theorem dX5_adds_8 : decode cX5_adds 8 = .ok (.ifCond .eq 22, 3) := by decide +kernel
theorem dX5_adds_11 : decode cX5_adds 11 = .ok (.aload_n 0, 1) := by decide +kernel
theorem dX5_adds_12 : decode cX5_adds 12 = .ok (.iload_n 1, 1) := by decide +kernel
theorem dX5_adds_13 : decode cX5_adds 13 = .ok (.iconst 2, 1) := by decide +kernel
theorem dX5_adds_14 : decode cX5_adds 14 = .ok (.aload_n 0, 1) := by decide +kernel
theorem dX5_adds_15 : decode cX5_adds 15 = .ok (.iload_n 1, 1) := by decide +kernel
theorem dX5_adds_16 : decode cX5_adds 16 = .ok (.iload_n 2, 1) := by decide +kernel
theorem dX5_adds_17 : decode cX5_adds 17 = .ok (.invokevirtual 69, 3) := by decide +kernel
theorem dX5_adds_20 : decode cX5_adds 20 = .ok (.iadd, 1) := by decide +kernel
theorem dX5_adds_21 : decode cX5_adds 21 = .ok (.aload_n 0, 1) := by decide +kernel
theorem dX5_adds_22 : decode cX5_adds 22 = .ok (.iload_n 1, 1) := by decide +kernel
theorem dX5_adds_23 : decode cX5_adds 23 = .ok (.iload_n 2, 1) := by decide +kernel
theorem dX5_adds_24 : decode cX5_adds 24 = .ok (.invokevirtual 66, 3) := by decide +kernel
theorem dX5_adds_27 : decode cX5_adds 27 = .ok (.invokevirtual 31, 3) := by decide +kernel
theorem dX5_adds_30 : decode cX5_adds 30 = .ok (.aload_n 0, 1) := by decide +kernel
theorem dX5_adds_31 : decode cX5_adds 31 = .ok (.iload_n 1, 1) := by decide +kernel
theorem dX5_adds_32 : decode cX5_adds 32 = .ok (.iload_n 2, 1) := by decide +kernel
theorem dX5_adds_33 : decode cX5_adds 33 = .ok (.invokevirtual 113, 3) := by decide +kernel
theorem dX5_adds_36 : decode cX5_adds 36 = .ok (.iload_n 3, 1) := by decide +kernel
theorem dX5_adds_37 : decode cX5_adds 37 = .ok (.ifCond .eq 7, 3) := by decide +kernel
theorem dX5_adds_40 : decode cX5_adds 40 = .ok (.iconst 1, 1) := by decide +kernel
theorem dX5_adds_41 : decode cX5_adds 41 = .ok (.goto 4, 3) := by decide +kernel
theorem dX5_adds_44 : decode cX5_adds 44 = .ok (.iconst 0, 1) := by decide +kernel
theorem dX5_adds_45 : decode cX5_adds 45 = .ok (.ireturn, 1) := by decide +kernel
set_option maxRecDepth 20000 in
theorem ggX5_salt_X5_within : GoodIn wsX5_salt wsX5_within := goodIn_r _ [6] (by decide +kernel) (by decide +kernel)
set_option maxRecDepth 20000 in
theorem gX5_salt_X5_within : GoodIn wsX5_salt (va_wsS RX5 43 yX5_within wsX5_within) := goodIn_app (goodIn_of _ (by decide +kernel)) ggX5_salt_X5_within
set_option maxRecDepth 20000 in
theorem ggX5_salt_X5_record : GoodIn wsX5_salt wsX5_record := goodIn_r _ [10, 11, 12, 2, 13, 14, 5, 15, 36, 37, 38, 39, 40, 41, 42, 43, 44, 45, 46, 47, 48] (by decide +kernel) (by decide +kernel)
set_option maxRecDepth 20000 in
theorem gX5_salt_X5_record : GoodIn wsX5_salt (wsV RX5 118 RX5 yX5_record wsX5_record) := goodIn_app (goodIn_of _ (by decide +kernel)) ggX5_salt_X5_record
set_option maxRecDepth 20000 in
theorem ggX5_salt_X5_empties : GoodIn wsX5_salt wsX5_empties := goodIn_r _ [19, 20, 21, 22, 5, 23, 24, 25, 26, 27, 28, 29, 30, 31, 2, 32, 33, 34, 35, 36, 37, 38, 39, 40, 41, 42, 43, 44, 45, 46, 47, 48] (by decide +kernel) (by decide +kernel)
set_option maxRecDepth 20000 in
theorem gX5_salt_X5_empties : GoodIn wsX5_salt (wsV RX5 121 RX5 yX5_empties wsX5_empties) := goodIn_app (goodIn_of _ (by decide +kernel)) ggX5_salt_X5_empties
theorem dX5_salt_0 : decode cX5_salt 0 = .ok (.iload_n 1, 1) := by decide +kernel
theorem dX5_salt_1 : decode cX5_salt 1 = .ok (.iconst 0, 1) := by decide +kernel
theorem dX5_salt_2 : decode cX5_salt 2 = .ok (.ldc 117, 2) := by decide +kernel
theorem dX5_salt_4 : decode cX5_salt 4 = .ok (.invokestatic 43, 3) := by decide +kernel
theorem dX5_salt_7 : decode cX5_salt 7 = .ok (.ifCond .ne 6, 3) := by decide +kernel
theorem dX5_salt_10 : decode cX5_salt 10 = .ok (.bipush (-2), 2) := by decide +kernel
theorem dX5_salt_12 : decode cX5_salt 12 = .ok (.ireturn, 1) := by decide +kernel
theorem dX5_salt_13 : decode cX5_salt 13 = .ok (.aload_n 0, 1) := by decide +kernel
theorem dX5_salt_14 : decode cX5_salt 14 = .ok (.invokevirtual 118, 3) := by decide +kernel
theorem dX5_salt_17 : decode cX5_salt 17 = .ok (.aload_n 0, 1) := by decide +kernel
theorem dX5_salt_18 : decode cX5_salt 18 = .ok (.getfield 7, 3) := by decide +kernel
theorem dX5_salt_21 : decode cX5_salt 21 = .ok (.iconst 0, 1) := by decide +kernel
theorem dX5_salt_22 : decode cX5_salt 22 = .ok (.iaload, 1) := by decide +kernel
theorem dX5_salt_23 : decode cX5_salt 23 = .ok (.istore_n 2, 1) := by decide +kernel
theorem dX5_salt_24 : decode cX5_salt 24 = .ok (.aload_n 0, 1) := by decide +kernel
theorem dX5_salt_25 : decode cX5_salt 25 = .ok (.getfield 7, 3) := by decide +kernel
theorem dX5_salt_28 : decode cX5_salt 28 = .ok (.iconst 0, 1) := by decide +kernel
theorem dX5_salt_29 : decode cX5_salt 29 = .ok (.iload_n 1, 1) := by decide +kernel
theorem dX5_salt_30 : decode cX5_salt 30 = .ok (.iastore, 1) := by decide +kernel
theorem dX5_salt_31 : decode cX5_salt 31 = .ok (.iconst 0, 1) := by decide +kernel
theorem dX5_salt_32 : decode cX5_salt 32 = .ok (.istore_n 3, 1) := by decide +kernel
theorem dX5_salt_33 : decode cX5_salt 33 = .ok (.iload_n 3, 1) := by decide +kernel
theorem dX5_salt_34 : decode cX5_salt 34 = .ok (.bipush 6, 2) := by decide +kernel
theorem dX5_salt_36 : decode cX5_salt 36 = .ok (.if_icmp .ge 15, 3) := by decide +kernel
theorem dX5_salt_39 : decode cX5_salt 39 = .ok (.aload_n 0, 1) := by decide +kernel
theorem dX5_salt_40 : decode cX5_salt 40 = .ok (.iload_n 3, 1) := by decide +kernel
theorem dX5_salt_41 : decode cX5_salt 41 = .ok (.invokevirtual 121, 3) := by decide +kernel
theorem dX5_salt_44 : decode cX5_salt 44 = .ok (.pop, 1) := by decide +kernel
theorem dX5_salt_45 : decode cX5_salt 45 = .ok (.iinc 3 1, 3) := by decide +kernel
theorem dX5_salt_48 : decode cX5_salt 48 = .ok (.goto (-15), 3) := by decide +kernel
theorem dX5_salt_51 : decode cX5_salt 51 = .ok (.iload_n 2, 1) := by decide +kernel
theorem dX5_salt_52 : decode cX5_salt 52 = .ok (.ireturn, 1) := by decide +kernel
set_option maxRecDepth 20000 in
theorem ggX5_bits_X5_isSketch : GoodIn wsX5_bits wsX5_isSketch := goodIn_r _ [4, 5, 6, 3, 7] (by decide +kernel) (by decide +kernel)
set_option maxRecDepth 20000 in
theorem gX5_bits_X5_isSketch : GoodIn wsX5_bits (va_wsS RX5 124 yX5_isSketch wsX5_isSketch) := goodIn_app (goodIn_of _ (by decide +kernel)) ggX5_bits_X5_isSketch
set_option maxRecDepth 20000 in
theorem ggX5_bits_X5_within : GoodIn wsX5_bits wsX5_within := goodIn_r _ [7] (by decide +kernel) (by decide +kernel)
set_option maxRecDepth 20000 in
theorem gX5_bits_X5_within : GoodIn wsX5_bits (va_wsS RX5 43 yX5_within wsX5_within) := goodIn_app (goodIn_of _ (by decide +kernel)) ggX5_bits_X5_within
set_option maxRecDepth 20000 in
theorem ggX5_bits_X5_record : GoodIn wsX5_bits wsX5_record := goodIn_r _ [11, 12, 13, 14, 15, 16, 3, 17, 38, 39, 40, 41, 42, 43, 44, 45, 46, 47, 48, 49, 50] (by decide +kernel) (by decide +kernel)
set_option maxRecDepth 20000 in
theorem gX5_bits_X5_record : GoodIn wsX5_bits (wsV RX5 118 RX5 yX5_record wsX5_record) := goodIn_app (goodIn_of _ (by decide +kernel)) ggX5_bits_X5_record
set_option maxRecDepth 20000 in
theorem ggX5_bits_X5_part : GoodIn wsX5_bits wsX5_part := goodIn_r _ [21, 14, 38, 39, 40, 41, 42, 43, 44, 45, 46, 47, 48, 49, 50] (by decide +kernel) (by decide +kernel)
set_option maxRecDepth 20000 in
theorem gX5_bits_X5_part : GoodIn wsX5_bits (wsV RX5 48 RX5 yX5_part wsX5_part) := goodIn_app (goodIn_of _ (by decide +kernel)) ggX5_bits_X5_part
set_option maxRecDepth 20000 in
theorem ggX5_bits_X5_empties : GoodIn wsX5_bits wsX5_empties := goodIn_r _ [25, 26, 27, 28, 3, 29, 30, 31, 32, 33, 18, 19, 20, 21, 14, 34, 35, 36, 37, 38, 39, 40, 41, 42, 43, 44, 45, 46, 47, 48, 49, 50] (by decide +kernel) (by decide +kernel)
set_option maxRecDepth 20000 in
theorem gX5_bits_X5_empties : GoodIn wsX5_bits (wsV RX5 121 RX5 yX5_empties wsX5_empties) := goodIn_app (goodIn_of _ (by decide +kernel)) ggX5_bits_X5_empties
set_option maxRecDepth 20000 in
theorem ggX5_bits_X5_setPart : GoodIn wsX5_bits wsX5_setPart := goodIn_r _ [37, 14, 38, 39, 40, 41, 42, 43, 44, 45, 46, 47, 48, 49, 50] (by decide +kernel) (by decide +kernel)
set_option maxRecDepth 20000 in
theorem gX5_bits_X5_setPart : GoodIn wsX5_bits (wsV RX5 31 RX5 yX5_setPart wsX5_setPart) := goodIn_app (goodIn_of _ (by decide +kernel)) ggX5_bits_X5_setPart
theorem dX5_bits_0 : decode cX5_bits 0 = .ok (.iload_n 1, 1) := by decide +kernel
theorem dX5_bits_1 : decode cX5_bits 1 = .ok (.invokestatic 124, 3) := by decide +kernel
theorem dX5_bits_4 : decode cX5_bits 4 = .ok (.ifCond .ne 5, 3) := by decide +kernel
theorem dX5_bits_7 : decode cX5_bits 7 = .ok (.iconst (-1), 1) := by decide +kernel
theorem dX5_bits_8 : decode cX5_bits 8 = .ok (.ireturn, 1) := by decide +kernel
theorem dX5_bits_9 : decode cX5_bits 9 = .ok (.iload_n 2, 1) := by decide +kernel
theorem dX5_bits_10 : decode cX5_bits 10 = .ok (.iconst 2, 1) := by decide +kernel
theorem dX5_bits_11 : decode cX5_bits 11 = .ok (.bipush 6, 2) := by decide +kernel
theorem dX5_bits_13 : decode cX5_bits 13 = .ok (.invokestatic 43, 3) := by decide +kernel
theorem dX5_bits_16 : decode cX5_bits 16 = .ok (.ifCond .ne 6, 3) := by decide +kernel
theorem dX5_bits_19 : decode cX5_bits 19 = .ok (.bipush (-2), 2) := by decide +kernel
theorem dX5_bits_21 : decode cX5_bits 21 = .ok (.ireturn, 1) := by decide +kernel
theorem dX5_bits_22 : decode cX5_bits 22 = .ok (.aload_n 0, 1) := by decide +kernel
theorem dX5_bits_23 : decode cX5_bits 23 = .ok (.invokevirtual 118, 3) := by decide +kernel
theorem dX5_bits_26 : decode cX5_bits 26 = .ok (.aload_n 0, 1) := by decide +kernel
theorem dX5_bits_27 : decode cX5_bits 27 = .ok (.iload_n 1, 1) := by decide +kernel
theorem dX5_bits_28 : decode cX5_bits 28 = .ok (.iconst 0, 1) := by decide +kernel
theorem dX5_bits_29 : decode cX5_bits 29 = .ok (.invokevirtual 48, 3) := by decide +kernel
theorem dX5_bits_32 : decode cX5_bits 32 = .ok (.istore_n 3, 1) := by decide +kernel
theorem dX5_bits_33 : decode cX5_bits 33 = .ok (.aload_n 0, 1) := by decide +kernel
theorem dX5_bits_34 : decode cX5_bits 34 = .ok (.iload_n 1, 1) := by decide +kernel
theorem dX5_bits_35 : decode cX5_bits 35 = .ok (.invokevirtual 121, 3) := by decide +kernel
theorem dX5_bits_38 : decode cX5_bits 38 = .ok (.pop, 1) := by decide +kernel
theorem dX5_bits_39 : decode cX5_bits 39 = .ok (.aload_n 0, 1) := by decide +kernel
theorem dX5_bits_40 : decode cX5_bits 40 = .ok (.iload_n 1, 1) := by decide +kernel
theorem dX5_bits_41 : decode cX5_bits 41 = .ok (.iconst 0, 1) := by decide +kernel
theorem dX5_bits_42 : decode cX5_bits 42 = .ok (.iload_n 2, 1) := by decide +kernel
theorem dX5_bits_43 : decode cX5_bits 43 = .ok (.invokevirtual 31, 3) := by decide +kernel
theorem dX5_bits_46 : decode cX5_bits 46 = .ok (.iload_n 3, 1) := by decide +kernel
theorem dX5_bits_47 : decode cX5_bits 47 = .ok (.ireturn, 1) := by decide +kernel
set_option maxRecDepth 20000 in
theorem ggX5_add_X5_isSketch : GoodIn wsX5_add wsX5_isSketch := goodIn_r _ [4, 5, 6, 3, 7] (by decide +kernel) (by decide +kernel)
set_option maxRecDepth 20000 in
theorem gX5_add_X5_isSketch : GoodIn wsX5_add (va_wsS RX5 124 yX5_isSketch wsX5_isSketch) := goodIn_app (goodIn_of _ (by decide +kernel)) ggX5_add_X5_isSketch
set_option maxRecDepth 20000 in
theorem ggX5_add_X5_isThing : GoodIn wsX5_add wsX5_isThing := goodIn_r _ [10, 11, 5, 6, 3, 7] (by decide +kernel) (by decide +kernel)
set_option maxRecDepth 20000 in
theorem gX5_add_X5_isThing : GoodIn wsX5_add (va_wsS RX5 127 yX5_isThing wsX5_isThing) := goodIn_app (goodIn_of _ (by decide +kernel)) ggX5_add_X5_isThing
set_option maxRecDepth 20000 in
theorem ggX5_add_X5_record : GoodIn wsX5_add wsX5_record := goodIn_r _ [15, 16, 17, 18, 19, 20, 3, 21, 74, 75, 76, 77, 78, 79, 80, 81, 82, 83, 84, 85, 86] (by decide +kernel) (by decide +kernel)
set_option maxRecDepth 20000 in
theorem gX5_add_X5_record : GoodIn wsX5_add (wsV RX5 118 RX5 yX5_record wsX5_record) := goodIn_app (goodIn_of _ (by decide +kernel)) ggX5_add_X5_record
set_option maxRecDepth 20000 in
theorem ggX5_add_X5_adds : GoodIn wsX5_add wsX5_adds := goodIn_r _ [25, 26, 27, 28, 3, 29, 30, 31, 32, 33, 18, 34, 35, 36, 37, 38, 39, 40, 41, 42, 43, 44, 45, 46, 47, 48, 49, 50, 51, 52, 53, 54, 55, 56, 57, 58, 59, 60, 61, 62, 63, 64, 65, 66, 67, 68, 69, 70, 71, 72, 73, 74, 75, 76, 77, 78, 79, 80, 81, 82, 83, 84, 85, 86] (by decide +kernel) (by decide +kernel)
set_option maxRecDepth 20000 in
theorem gX5_add_X5_adds : GoodIn wsX5_add (wsV RX5 130 RX5 yX5_adds wsX5_adds) := goodIn_app (goodIn_of _ (by decide +kernel)) ggX5_add_X5_adds
theorem dX5_add_0 : decode cX5_add 0 = .ok (.iload_n 1, 1) := by decide +kernel
theorem dX5_add_1 : decode cX5_add 1 = .ok (.invokestatic 124, 3) := by decide +kernel
theorem dX5_add_4 : decode cX5_add 4 = .ok (.ifCond .ne 5, 3) := by decide +kernel
theorem dX5_add_7 : decode cX5_add 7 = .ok (.iconst (-1), 1) := by decide +kernel
theorem dX5_add_8 : decode cX5_add 8 = .ok (.ireturn, 1) := by decide +kernel
theorem dX5_add_9 : decode cX5_add 9 = .ok (.iload_n 2, 1) := by decide +kernel
theorem dX5_add_10 : decode cX5_add 10 = .ok (.invokestatic 127, 3) := by decide +kernel
theorem dX5_add_13 : decode cX5_add 13 = .ok (.ifCond .ne 6, 3) := by decide +kernel
theorem dX5_add_16 : decode cX5_add 16 = .ok (.bipush (-2), 2) := by decide +kernel
theorem dX5_add_18 : decode cX5_add 18 = .ok (.ireturn, 1) := by decide +kernel
theorem dX5_add_19 : decode cX5_add 19 = .ok (.aload_n 0, 1) := by decide +kernel
theorem dX5_add_20 : decode cX5_add 20 = .ok (.invokevirtual 118, 3) := by decide +kernel
theorem dX5_add_23 : decode cX5_add 23 = .ok (.aload_n 0, 1) := by decide +kernel
theorem dX5_add_24 : decode cX5_add 24 = .ok (.iload_n 1, 1) := by decide +kernel
theorem dX5_add_25 : decode cX5_add 25 = .ok (.iload_n 2, 1) := by decide +kernel
theorem dX5_add_26 : decode cX5_add 26 = .ok (.invokevirtual 130, 3) := by decide +kernel
theorem dX5_add_29 : decode cX5_add 29 = .ok (.ireturn, 1) := by decide +kernel
set_option maxRecDepth 20000 in
theorem ggX5_isRange_X5_isThing : GoodIn wsX5_isRange wsX5_isThing := goodIn_r _ [5, 6, 7, 8, 4, 9] (by decide +kernel) (by decide +kernel)
set_option maxRecDepth 20000 in
theorem gX5_isRange_X5_isThing : GoodIn wsX5_isRange (va_wsS RX5 127 yX5_isThing wsX5_isThing) := goodIn_app (goodIn_of _ (by decide +kernel)) ggX5_isRange_X5_isThing
set_option maxRecDepth 20000 in
theorem ggX5_isRange_X5_within : GoodIn wsX5_isRange wsX5_within := goodIn_r _ [9] (by decide +kernel) (by decide +kernel)
set_option maxRecDepth 20000 in
theorem gX5_isRange_X5_within : GoodIn wsX5_isRange (va_wsS RX5 43 yX5_within wsX5_within) := goodIn_app (goodIn_of _ (by decide +kernel)) ggX5_isRange_X5_within
theorem dX5_isRange_0 : decode cX5_isRange 0 = .ok (.iload_n 0, 1) := by decide +kernel
theorem dX5_isRange_1 : decode cX5_isRange 1 = .ok (.invokestatic 127, 3) := by decide +kernel
theorem dX5_isRange_4 : decode cX5_isRange 4 = .ok (.ifCond .eq 26, 3) := by decide +kernel
theorem dX5_isRange_7 : decode cX5_isRange 7 = .ok (.iload_n 1, 1) := by decide +kernel
theorem dX5_isRange_8 : decode cX5_isRange 8 = .ok (.iconst 1, 1) := by decide +kernel
theorem dX5_isRange_9 : decode cX5_isRange 9 = .ok (.sipush 999, 3) := by decide +kernel
theorem dX5_isRange_12 : decode cX5_isRange 12 = .ok (.invokestatic 43, 3) := by decide +kernel
theorem dX5_isRange_15 : decode cX5_isRange 15 = .ok (.ifCond .eq 15, 3) := by decide +kernel
theorem dX5_isRange_18 : decode cX5_isRange 18 = .ok (.iload_n 1, 1) := by decide +kernel
theorem dX5_isRange_19 : decode cX5_isRange 19 = .ok (.ldc 133, 2) := by decide +kernel
theorem dX5_isRange_21 : decode cX5_isRange 21 = .ok (.iload_n 0, 1) := by decide +kernel
theorem dX5_isRange_22 : decode cX5_isRange 22 = .ok (.isub, 1) := by decide +kernel
theorem dX5_isRange_23 : decode cX5_isRange 23 = .ok (.if_icmp .gt 7, 3) := by decide +kernel
theorem dX5_isRange_26 : decode cX5_isRange 26 = .ok (.iconst 1, 1) := by decide +kernel
theorem dX5_isRange_27 : decode cX5_isRange 27 = .ok (.goto 4, 3) := by decide +kernel
theorem dX5_isRange_30 : decode cX5_isRange 30 = .ok (.iconst 0, 1) := by decide +kernel
theorem dX5_isRange_31 : decode cX5_isRange 31 = .ok (.ireturn, 1) := by decide +kernel
set_option maxRecDepth 20000 in
theorem ggX5_addsRange_X5_adds : GoodIn wsX5_addsRange wsX5_adds := goodIn_r _ [5, 6, 7, 8, 4, 9, 10, 11, 12, 13, 14, 15, 16, 17, 18, 19, 20, 21, 22, 23, 24, 25, 26, 27, 28, 29, 30, 31, 32, 33, 34, 35, 36, 37, 38, 39, 40, 41, 42, 43, 44, 45, 46, 47, 48, 49, 50, 51, 52, 53, 54, 55, 56, 57, 58, 59, 60, 61, 62, 63, 64, 65, 66, 67] (by decide +kernel) (by decide +kernel)
set_option maxRecDepth 20000 in
theorem gX5_addsRange_X5_adds : GoodIn wsX5_addsRange (wsV RX5 130 RX5 yX5_adds wsX5_adds) := goodIn_app (goodIn_of _ (by decide +kernel)) ggX5_addsRange_X5_adds
theorem dX5_addsRange_0 : decode cX5_addsRange 0 = .ok (.iconst 0, 1) := by decide +kernel
theorem dX5_addsRange_1 : decode cX5_addsRange 1 = .ok (.istore 4, 2) := by decide +kernel
theorem dX5_addsRange_3 : decode cX5_addsRange 3 = .ok (.iconst 0, 1) := by decide +kernel
theorem dX5_addsRange_4 : decode cX5_addsRange 4 = .ok (.istore 5, 2) := by decide +kernel
theorem dX5_addsRange_6 : decode cX5_addsRange 6 = .ok (.iload 5, 2) := by decide +kernel
theorem dX5_addsRange_8 : decode cX5_addsRange 8 = .ok (.iload_n 3, 1) := by decide +kernel
theorem dX5_addsRange_9 : decode cX5_addsRange 9 = .ok (.if_icmp .ge 23, 3) := by decide +kernel
theorem dX5_addsRange_12 : decode cX5_addsRange 12 = .ok (.iload 4, 2) := by decide +kernel
theorem dX5_addsRange_14 : decode cX5_addsRange 14 = .ok (.aload_n 0, 1) := by decide +kernel
theorem dX5_addsRange_15 : decode cX5_addsRange 15 = .ok (.iload_n 1, 1) := by decide +kernel
theorem dX5_addsRange_16 : decode cX5_addsRange 16 = .ok (.iload_n 2, 1) := by decide +kernel
theorem dX5_addsRange_17 : decode cX5_addsRange 17 = .ok (.iload 5, 2) := by decide +kernel
theorem dX5_addsRange_19 : decode cX5_addsRange 19 = .ok (.iadd, 1) := by decide +kernel
theorem dX5_addsRange_20 : decode cX5_addsRange 20 = .ok (.invokevirtual 130, 3) := by decide +kernel
theorem dX5_addsRange_23 : decode cX5_addsRange 23 = .ok (.iadd, 1) := by decide +kernel
theorem dX5_addsRange_24 : decode cX5_addsRange 24 = .ok (.istore 4, 2) := by decide +kernel
theorem dX5_addsRange_26 : decode cX5_addsRange 26 = .ok (.iinc 5 1, 3) := by decide +kernel
theorem dX5_addsRange_29 : decode cX5_addsRange 29 = .ok (.goto (-23), 3) := by decide +kernel
theorem dX5_addsRange_32 : decode cX5_addsRange 32 = .ok (.iload 4, 2) := by decide +kernel
theorem dX5_addsRange_34 : decode cX5_addsRange 34 = .ok (.ireturn, 1) := by decide +kernel
set_option maxRecDepth 20000 in
theorem ggX5_addRange_X5_isSketch : GoodIn wsX5_addRange wsX5_isSketch := goodIn_r _ [4, 5, 6, 3, 7] (by decide +kernel) (by decide +kernel)
set_option maxRecDepth 20000 in
theorem gX5_addRange_X5_isSketch : GoodIn wsX5_addRange (va_wsS RX5 124 yX5_isSketch wsX5_isSketch) := goodIn_app (goodIn_of _ (by decide +kernel)) ggX5_addRange_X5_isSketch
set_option maxRecDepth 20000 in
theorem ggX5_addRange_X5_isRange : GoodIn wsX5_addRange wsX5_isRange := goodIn_r _ [10, 11, 12, 13, 3, 14, 15, 5, 6, 7] (by decide +kernel) (by decide +kernel)
set_option maxRecDepth 20000 in
theorem gX5_addRange_X5_isRange : GoodIn wsX5_addRange (va_wsS RX5 134 yX5_isRange wsX5_isRange) := goodIn_app (goodIn_of _ (by decide +kernel)) ggX5_addRange_X5_isRange
set_option maxRecDepth 20000 in
theorem ggX5_addRange_X5_record : GoodIn wsX5_addRange wsX5_record := goodIn_r _ [19, 20, 21, 22, 23, 24, 3, 25, 82, 83, 84, 85, 86, 87, 88, 89, 90, 91, 92, 93, 94] (by decide +kernel) (by decide +kernel)
set_option maxRecDepth 20000 in
theorem gX5_addRange_X5_record : GoodIn wsX5_addRange (wsV RX5 118 RX5 yX5_record wsX5_record) := goodIn_app (goodIn_of _ (by decide +kernel)) ggX5_addRange_X5_record
set_option maxRecDepth 20000 in
theorem ggX5_addRange_X5_addsRange : GoodIn wsX5_addRange wsX5_addsRange := goodIn_r _ [29, 30, 31, 32, 3, 33, 34, 35, 36, 37, 38, 39, 40, 41, 22, 42, 43, 44, 45, 46, 47, 48, 49, 50, 51, 52, 53, 54, 55, 56, 57, 58, 59, 60, 61, 62, 63, 64, 65, 66, 67, 68, 69, 70, 71, 72, 73, 74, 75, 76, 77, 78, 79, 80, 81, 82, 83, 84, 85, 86, 87, 88, 89, 90, 91, 92, 93, 94] (by decide +kernel) (by decide +kernel)
set_option maxRecDepth 20000 in
theorem gX5_addRange_X5_addsRange : GoodIn wsX5_addRange (wsV RX5 137 RX5 yX5_addsRange wsX5_addsRange) := goodIn_app (goodIn_of _ (by decide +kernel)) ggX5_addRange_X5_addsRange
theorem dX5_addRange_0 : decode cX5_addRange 0 = .ok (.iload_n 1, 1) := by decide +kernel
theorem dX5_addRange_1 : decode cX5_addRange 1 = .ok (.invokestatic 124, 3) := by decide +kernel
theorem dX5_addRange_4 : decode cX5_addRange 4 = .ok (.ifCond .ne 5, 3) := by decide +kernel
theorem dX5_addRange_7 : decode cX5_addRange 7 = .ok (.iconst (-1), 1) := by decide +kernel
theorem dX5_addRange_8 : decode cX5_addRange 8 = .ok (.ireturn, 1) := by decide +kernel
theorem dX5_addRange_9 : decode cX5_addRange 9 = .ok (.iload_n 2, 1) := by decide +kernel
theorem dX5_addRange_10 : decode cX5_addRange 10 = .ok (.iload_n 3, 1) := by decide +kernel
theorem dX5_addRange_11 : decode cX5_addRange 11 = .ok (.invokestatic 134, 3) := by decide +kernel
theorem dX5_addRange_14 : decode cX5_addRange 14 = .ok (.ifCond .ne 6, 3) := by decide +kernel
theorem dX5_addRange_17 : decode cX5_addRange 17 = .ok (.bipush (-2), 2) := by decide +kernel
theorem dX5_addRange_19 : decode cX5_addRange 19 = .ok (.ireturn, 1) := by decide +kernel
theorem dX5_addRange_20 : decode cX5_addRange 20 = .ok (.aload_n 0, 1) := by decide +kernel
theorem dX5_addRange_21 : decode cX5_addRange 21 = .ok (.invokevirtual 118, 3) := by decide +kernel
theorem dX5_addRange_24 : decode cX5_addRange 24 = .ok (.aload_n 0, 1) := by decide +kernel
theorem dX5_addRange_25 : decode cX5_addRange 25 = .ok (.iload_n 1, 1) := by decide +kernel
theorem dX5_addRange_26 : decode cX5_addRange 26 = .ok (.iload_n 2, 1) := by decide +kernel
theorem dX5_addRange_27 : decode cX5_addRange 27 = .ok (.iload_n 3, 1) := by decide +kernel
theorem dX5_addRange_28 : decode cX5_addRange 28 = .ok (.invokevirtual 137, 3) := by decide +kernel
theorem dX5_addRange_31 : decode cX5_addRange 31 = .ok (.ireturn, 1) := by decide +kernel
set_option maxRecDepth 20000 in
theorem ggX5_whyNotJoined_X5_isSketch : GoodIn wsX5_whyNotJoined wsX5_isSketch := goodIn_r _ [4, 5, 6, 3, 7] (by decide +kernel) (by decide +kernel)
set_option maxRecDepth 20000 in
theorem gX5_whyNotJoined_X5_isSketch : GoodIn wsX5_whyNotJoined (va_wsS RX5 124 yX5_isSketch wsX5_isSketch) := goodIn_app (goodIn_of _ (by decide +kernel)) ggX5_whyNotJoined_X5_isSketch
set_option maxRecDepth 20000 in
theorem ggX5_whyNotJoined_X5_part : GoodIn wsX5_whyNotJoined wsX5_part := goodIn_r _ [11, 12, 13, 14, 15, 16, 17, 18, 19, 20, 21, 22, 23, 24, 25] (by decide +kernel) (by decide +kernel)
set_option maxRecDepth 20000 in
theorem gX5_whyNotJoined_X5_part : GoodIn wsX5_whyNotJoined (wsV RX5 48 RX5 yX5_part wsX5_part) := goodIn_app (goodIn_of _ (by decide +kernel)) ggX5_whyNotJoined_X5_part
theorem dX5_whyNotJoined_0 : decode cX5_whyNotJoined 0 = .ok (.iload_n 1, 1) := by decide +kernel
theorem dX5_whyNotJoined_1 : decode cX5_whyNotJoined 1 = .ok (.invokestatic 124, 3) := by decide +kernel
theorem dX5_whyNotJoined_4 : decode cX5_whyNotJoined 4 = .ok (.ifCond .eq 10, 3) := by decide +kernel
theorem dX5_whyNotJoined_7 : decode cX5_whyNotJoined 7 = .ok (.iload_n 2, 1) := by decide +kernel
theorem dX5_whyNotJoined_8 : decode cX5_whyNotJoined 8 = .ok (.invokestatic 124, 3) := by decide +kernel
theorem dX5_whyNotJoined_11 : decode cX5_whyNotJoined 11 = .ok (.ifCond .ne 5, 3) := by decide +kernel
theorem dX5_whyNotJoined_14 : decode cX5_whyNotJoined 14 = .ok (.iconst (-1), 1) := by decide +kernel
theorem dX5_whyNotJoined_15 : decode cX5_whyNotJoined 15 = .ok (.ireturn, 1) := by decide +kernel
theorem dX5_whyNotJoined_16 : decode cX5_whyNotJoined 16 = .ok (.iload_n 1, 1) := by decide +kernel
theorem dX5_whyNotJoined_17 : decode cX5_whyNotJoined 17 = .ok (.iload_n 2, 1) := by decide +kernel
theorem dX5_whyNotJoined_18 : decode cX5_whyNotJoined 18 = .ok (.if_icmp .eq 18, 3) := by decide +kernel
theorem dX5_whyNotJoined_21 : decode cX5_whyNotJoined 21 = .ok (.aload_n 0, 1) := by decide +kernel
theorem dX5_whyNotJoined_22 : decode cX5_whyNotJoined 22 = .ok (.iload_n 1, 1) := by decide +kernel
theorem dX5_whyNotJoined_23 : decode cX5_whyNotJoined 23 = .ok (.iconst 0, 1) := by decide +kernel
theorem dX5_whyNotJoined_24 : decode cX5_whyNotJoined 24 = .ok (.invokevirtual 48, 3) := by decide +kernel
theorem dX5_whyNotJoined_27 : decode cX5_whyNotJoined 27 = .ok (.aload_n 0, 1) := by decide +kernel
theorem dX5_whyNotJoined_28 : decode cX5_whyNotJoined 28 = .ok (.iload_n 2, 1) := by decide +kernel
theorem dX5_whyNotJoined_29 : decode cX5_whyNotJoined 29 = .ok (.iconst 0, 1) := by decide +kernel
theorem dX5_whyNotJoined_30 : decode cX5_whyNotJoined 30 = .ok (.invokevirtual 48, 3) := by decide +kernel
theorem dX5_whyNotJoined_33 : decode cX5_whyNotJoined 33 = .ok (.if_icmp .eq 8, 3) := by decide +kernel
theorem dX5_whyNotJoined_36 : decode cX5_whyNotJoined 36 = .ok (.bipush (-5), 2) := by decide +kernel
theorem dX5_whyNotJoined_38 : decode cX5_whyNotJoined 38 = .ok (.goto 4, 3) := by decide +kernel
theorem dX5_whyNotJoined_41 : decode cX5_whyNotJoined 41 = .ok (.iconst 0, 1) := by decide +kernel
theorem dX5_whyNotJoined_42 : decode cX5_whyNotJoined 42 = .ok (.ireturn, 1) := by decide +kernel
set_option maxRecDepth 20000 in
theorem ggX5_joins_X5_bucketsOf : GoodIn wsX5_joins wsX5_bucketsOf := goodIn_r _ [5, 6, 7, 8, 4, 9, 10, 60, 61, 62, 63, 64, 65, 66, 67, 68, 69, 70, 71, 72] (by decide +kernel) (by decide +kernel)
set_option maxRecDepth 20000 in
theorem gX5_joins_X5_bucketsOf : GoodIn wsX5_joins (wsV RX5 59 RX5 yX5_bucketsOf wsX5_bucketsOf) := goodIn_app (goodIn_of _ (by decide +kernel)) ggX5_joins_X5_bucketsOf
set_option maxRecDepth 20000 in
theorem ggX5_joins_X5_part : GoodIn wsX5_joins wsX5_part := goodIn_r _ [9, 10, 60, 61, 62, 63, 64, 65, 66, 67, 68, 69, 70, 71, 72] (by decide +kernel) (by decide +kernel)
set_option maxRecDepth 20000 in
theorem gX5_joins_X5_part : GoodIn wsX5_joins (wsV RX5 48 RX5 yX5_part wsX5_part) := goodIn_app (goodIn_of _ (by decide +kernel)) ggX5_joins_X5_part
set_option maxRecDepth 20000 in
theorem ggX5_joins_X5_setPart : GoodIn wsX5_joins wsX5_setPart := goodIn_r _ [14, 10, 60, 61, 62, 63, 64, 65, 66, 67, 68, 69, 70, 71, 72] (by decide +kernel) (by decide +kernel)
set_option maxRecDepth 20000 in
theorem gX5_joins_X5_setPart : GoodIn wsX5_joins (wsV RX5 31 RX5 yX5_setPart wsX5_setPart) := goodIn_app (goodIn_of _ (by decide +kernel)) ggX5_joins_X5_setPart
set_option maxRecDepth 20000 in
theorem ggX5_joins_X5_isFull : GoodIn wsX5_joins wsX5_isFull := goodIn_r _ [18, 6, 7, 8, 4, 9, 10, 60, 61, 62, 63, 64, 65, 66, 67, 68, 69, 70, 71, 72] (by decide +kernel) (by decide +kernel)
set_option maxRecDepth 20000 in
theorem gX5_joins_X5_isFull : GoodIn wsX5_joins (wsV RX5 99 RX5 yX5_isFull wsX5_isFull) := goodIn_app (goodIn_of _ (by decide +kernel)) ggX5_joins_X5_isFull
set_option maxRecDepth 20000 in
theorem ggX5_joins_X5_becomesFull : GoodIn wsX5_joins wsX5_becomesFull := goodIn_r _ [22, 11, 12, 13, 4, 14, 10, 60, 61, 62, 63, 64, 65, 66, 67, 68, 69, 70, 71, 72] (by decide +kernel) (by decide +kernel)
set_option maxRecDepth 20000 in
theorem gX5_joins_X5_becomesFull : GoodIn wsX5_joins (wsV RX5 107 RX5 yX5_becomesFull wsX5_becomesFull) := goodIn_app (goodIn_of _ (by decide +kernel)) ggX5_joins_X5_becomesFull
set_option maxRecDepth 20000 in
theorem ggX5_joins_X5_lists : GoodIn wsX5_joins wsX5_lists := goodIn_r _ [26, 15, 16, 17, 4, 18, 6, 7, 8, 9, 10, 27, 28, 29, 30, 19, 20, 21, 22, 11, 12, 13, 14, 60, 61, 62, 63, 64, 65, 66, 67, 68, 69, 70, 71, 72] (by decide +kernel) (by decide +kernel)
set_option maxRecDepth 20000 in
theorem gX5_joins_X5_lists : GoodIn wsX5_joins (wsV RX5 113 RX5 yX5_lists wsX5_lists) := goodIn_app (goodIn_of _ (by decide +kernel)) ggX5_joins_X5_lists
set_option maxRecDepth 20000 in
theorem ggX5_joins_X5_estimateOf : GoodIn wsX5_joins wsX5_estimateOf := goodIn_r _ [34, 35, 36, 37, 4, 38, 39, 6, 7, 8, 9, 10, 1, 2, 3, 5, 40, 41, 42, 43, 44, 45, 46, 47, 48, 49, 50, 51, 52, 53, 54, 55, 56, 57, 58, 59, 60, 61, 62, 63, 64, 65, 66, 67, 68, 69, 70, 71, 72] (by decide +kernel) (by decide +kernel)
set_option maxRecDepth 20000 in
theorem gX5_joins_X5_estimateOf : GoodIn wsX5_joins (wsV RX5 96 RX5 yX5_estimateOf wsX5_estimateOf) := goodIn_app (goodIn_of _ (by decide +kernel)) ggX5_joins_X5_estimateOf
theorem dX5_joins_0 : decode cX5_joins 0 = .ok (.iconst 0, 1) := by decide +kernel
theorem dX5_joins_1 : decode cX5_joins 1 = .ok (.istore_n 3, 1) := by decide +kernel
theorem dX5_joins_2 : decode cX5_joins 2 = .ok (.iload_n 3, 1) := by decide +kernel
theorem dX5_joins_3 : decode cX5_joins 3 = .ok (.aload_n 0, 1) := by decide +kernel
theorem dX5_joins_4 : decode cX5_joins 4 = .ok (.iload_n 1, 1) := by decide +kernel
theorem dX5_joins_5 : decode cX5_joins 5 = .ok (.invokevirtual 59, 3) := by decide +kernel
theorem dX5_joins_8 : decode cX5_joins 8 = .ok (.if_icmp .ge 55, 3) := by decide +kernel
theorem dX5_joins_11 : decode cX5_joins 11 = .ok (.aload_n 0, 1) := by decide +kernel
theorem dX5_joins_12 : decode cX5_joins 12 = .ok (.iload_n 1, 1) := by decide +kernel
theorem dX5_joins_13 : decode cX5_joins 13 = .ok (.iconst 2, 1) := by decide +kernel
theorem dX5_joins_14 : decode cX5_joins 14 = .ok (.iload_n 3, 1) := by decide +kernel
theorem dX5_joins_15 : decode cX5_joins 15 = .ok (.iadd, 1) := by decide +kernel
theorem dX5_joins_16 : decode cX5_joins 16 = .ok (.aload_n 0, 1) := by decide +kernel
theorem dX5_joins_17 : decode cX5_joins 17 = .ok (.iload_n 2, 1) := by decide +kernel
theorem dX5_joins_18 : decode cX5_joins 18 = .ok (.iconst 2, 1) := by decide +kernel
theorem dX5_joins_19 : decode cX5_joins 19 = .ok (.iload_n 3, 1) := by decide +kernel
theorem dX5_joins_20 : decode cX5_joins 20 = .ok (.iadd, 1) := by decide +kernel
theorem dX5_joins_21 : decode cX5_joins 21 = .ok (.invokevirtual 48, 3) := by decide +kernel
theorem dX5_joins_24 : decode cX5_joins 24 = .ok (.aload_n 0, 1) := by decide +kernel
theorem dX5_joins_25 : decode cX5_joins 25 = .ok (.iload_n 1, 1) := by decide +kernel
theorem dX5_joins_26 : decode cX5_joins 26 = .ok (.iconst 2, 1) := by decide +kernel
theorem dX5_joins_27 : decode cX5_joins 27 = .ok (.iload_n 3, 1) := by decide +kernel
theorem dX5_joins_28 : decode cX5_joins 28 = .ok (.iadd, 1) := by decide +kernel
theorem dX5_joins_29 : decode cX5_joins 29 = .ok (.invokevirtual 48, 3) := by decide +kernel
theorem dX5_joins_32 : decode cX5_joins 32 = .ok (.if_icmp .le 14, 3) := by decide +kernel
theorem dX5_joins_35 : decode cX5_joins 35 = .ok (.aload_n 0, 1) := by decide +kernel
theorem dX5_joins_36 : decode cX5_joins 36 = .ok (.iload_n 2, 1) := by decide +kernel
theorem dX5_joins_37 : decode cX5_joins 37 = .ok (.iconst 2, 1) := by decide +kernel
theorem dX5_joins_38 : decode cX5_joins 38 = .ok (.iload_n 3, 1) := by decide +kernel
theorem dX5_joins_39 : decode cX5_joins 39 = .ok (.iadd, 1) := by decide +kernel
theorem dX5_joins_40 : decode cX5_joins 40 = .ok (.invokevirtual 48, 3) := by decide +kernel
theorem dX5_joins_43 : decode cX5_joins 43 = .ok (.goto 11, 3) := by decide +kernel
theorem dX5_joins_46 : decode cX5_joins 46 = .ok (.aload_n 0, 1) := by decide +kernel
theorem dX5_joins_47 : decode cX5_joins 47 = .ok (.iload_n 1, 1) := by decide +kernel
theorem dX5_joins_48 : decode cX5_joins 48 = .ok (.iconst 2, 1) := by decide +kernel
theorem dX5_joins_49 : decode cX5_joins 49 = .ok (.iload_n 3, 1) := by decide +kernel
theorem dX5_joins_50 : decode cX5_joins 50 = .ok (.iadd, 1) := by decide +kernel
theorem dX5_joins_51 : decode cX5_joins 51 = .ok (.invokevirtual 48, 3) := by decide +kernel
theorem dX5_joins_54 : decode cX5_joins 54 = .ok (.invokevirtual 31, 3) := by decide +kernel
theorem dX5_joins_57 : decode cX5_joins 57 = .ok (.iinc 3 1, 3) := by decide +kernel
theorem dX5_joins_60 : decode cX5_joins 60 = .ok (.goto (-58), 3) := by decide +kernel
theorem dX5_joins_63 : decode cX5_joins 63 = .ok (.aload_n 0, 1) := by decide +kernel
theorem dX5_joins_64 : decode cX5_joins 64 = .ok (.iload_n 2, 1) := by decide +kernel
theorem dX5_joins_65 : decode cX5_joins 65 = .ok (.invokevirtual 99, 3) := by decide +kernel
theorem dX5_joins_68 : decode cX5_joins 68 = .ok (.ifCond .eq 8, 3) := by decide +kernel
theorem dX5_joins_71 : decode cX5_joins 71 = .ok (.aload_n 0, 1) := by decide +kernel
theorem dX5_joins_72 : decode cX5_joins 72 = .ok (.iload_n 1, 1) := by decide +kernel
theorem dX5_joins_73 : decode cX5_joins 73 = .ok (.invokevirtual 107, 3) := by decide +kernel
theorem dX5_joins_76 : decode cX5_joins 76 = .ok (.iconst 0, 1) := by decide +kernel
theorem dX5_joins_77 : decode cX5_joins 77 = .ok (.istore_n 3, 1) := by decide +kernel
theorem dX5_joins_78 : decode cX5_joins 78 = .ok (.iload_n 3, 1) := by decide +kernel
theorem dX5_joins_79 : decode cX5_joins 79 = .ok (.aload_n 0, 1) := by decide +kernel
theorem dX5_joins_80 : decode cX5_joins 80 = .ok (.iload_n 2, 1) := by decide +kernel
theorem dX5_joins_81 : decode cX5_joins 81 = .ok (.iconst 1, 1) := by decide +kernel
theorem dX5_joins_82 : decode cX5_joins 82 = .ok (.invokevirtual 48, 3) := by decide +kernel
theorem dX5_joins_85 : decode cX5_joins 85 = .ok (.if_icmp .ge 23, 3) := by decide +kernel
theorem dX5_joins_88 : decode cX5_joins 88 = .ok (.aload_n 0, 1) := by decide +kernel
theorem dX5_joins_89 : decode cX5_joins 89 = .ok (.iload_n 1, 1) := by decide +kernel
theorem dX5_joins_90 : decode cX5_joins 90 = .ok (.aload_n 0, 1) := by decide +kernel
theorem dX5_joins_91 : decode cX5_joins 91 = .ok (.iload_n 2, 1) := by decide +kernel
theorem dX5_joins_92 : decode cX5_joins 92 = .ok (.bipush 66, 2) := by decide +kernel
theorem dX5_joins_94 : decode cX5_joins 94 = .ok (.iload_n 3, 1) := by decide +kernel
theorem dX5_joins_95 : decode cX5_joins 95 = .ok (.iadd, 1) := by decide +kernel
theorem dX5_joins_96 : decode cX5_joins 96 = .ok (.invokevirtual 48, 3) := by decide +kernel
theorem dX5_joins_99 : decode cX5_joins 99 = .ok (.invokevirtual 113, 3) := by decide +kernel
theorem dX5_joins_102 : decode cX5_joins 102 = .ok (.iinc 3 1, 3) := by decide +kernel
theorem dX5_joins_105 : decode cX5_joins 105 = .ok (.goto (-27), 3) := by decide +kernel
theorem dX5_joins_108 : decode cX5_joins 108 = .ok (.aload_n 0, 1) := by decide +kernel
theorem dX5_joins_109 : decode cX5_joins 109 = .ok (.iload_n 1, 1) := by decide +kernel
theorem dX5_joins_110 : decode cX5_joins 110 = .ok (.invokevirtual 96, 3) := by decide +kernel
theorem dX5_joins_113 : decode cX5_joins 113 = .ok (.ireturn, 1) := by decide +kernel
set_option maxRecDepth 20000 in
theorem ggX5_join_X5_whyNotJoined : GoodIn wsX5_join wsX5_whyNotJoined := goodIn_r _ [5, 6, 7, 4, 8, 9, 10, 11, 12, 13, 14, 15, 16, 83, 84, 85, 86, 87, 88, 89, 90, 91, 92, 93, 94, 95] (by decide +kernel) (by decide +kernel)
set_option maxRecDepth 20000 in
theorem gX5_join_X5_whyNotJoined : GoodIn wsX5_join (wsV RX5 141 RX5 yX5_whyNotJoined wsX5_whyNotJoined) := goodIn_app (goodIn_of _ (by decide +kernel)) ggX5_join_X5_whyNotJoined
set_option maxRecDepth 20000 in
theorem ggX5_join_X5_record : GoodIn wsX5_join wsX5_record := goodIn_r _ [20, 21, 22, 16, 23, 24, 4, 25, 83, 84, 85, 86, 87, 88, 89, 90, 91, 92, 93, 94, 95] (by decide +kernel) (by decide +kernel)
set_option maxRecDepth 20000 in
theorem gX5_join_X5_record : GoodIn wsX5_join (wsV RX5 118 RX5 yX5_record wsX5_record) := goodIn_app (goodIn_of _ (by decide +kernel)) ggX5_join_X5_record
set_option maxRecDepth 20000 in
theorem ggX5_join_X5_joins : GoodIn wsX5_join wsX5_joins := goodIn_r _ [29, 30, 31, 32, 4, 33, 12, 13, 14, 15, 16, 34, 35, 36, 37, 38, 39, 40, 41, 42, 43, 44, 45, 46, 47, 48, 49, 50, 51, 52, 53, 54, 55, 56, 57, 58, 59, 60, 61, 62, 63, 64, 65, 66, 67, 68, 69, 70, 71, 72, 73, 74, 75, 76, 77, 78, 79, 80, 81, 82, 83, 84, 85, 86, 87, 88, 89, 90, 91, 92, 93, 94, 95] (by decide +kernel) (by decide +kernel)
set_option maxRecDepth 20000 in
theorem gX5_join_X5_joins : GoodIn wsX5_join (wsV RX5 144 RX5 yX5_joins wsX5_joins) := goodIn_app (goodIn_of _ (by decide +kernel)) ggX5_join_X5_joins
theorem dX5_join_0 : decode cX5_join 0 = .ok (.aload_n 0, 1) := by decide +kernel
theorem dX5_join_1 : decode cX5_join 1 = .ok (.iload_n 1, 1) := by decide +kernel
theorem dX5_join_2 : decode cX5_join 2 = .ok (.iload_n 2, 1) := by decide +kernel
theorem dX5_join_3 : decode cX5_join 3 = .ok (.invokevirtual 141, 3) := by decide +kernel
theorem dX5_join_6 : decode cX5_join 6 = .ok (.istore_n 3, 1) := by decide +kernel
theorem dX5_join_7 : decode cX5_join 7 = .ok (.iload_n 3, 1) := by decide +kernel
theorem dX5_join_8 : decode cX5_join 8 = .ok (.ifCond .ge 5, 3) := by decide +kernel
theorem dX5_join_11 : decode cX5_join 11 = .ok (.iload_n 3, 1) := by decide +kernel
theorem dX5_join_12 : decode cX5_join 12 = .ok (.ireturn, 1) := by decide +kernel
theorem dX5_join_13 : decode cX5_join 13 = .ok (.aload_n 0, 1) := by decide +kernel
theorem dX5_join_14 : decode cX5_join 14 = .ok (.invokevirtual 118, 3) := by decide +kernel
theorem dX5_join_17 : decode cX5_join 17 = .ok (.aload_n 0, 1) := by decide +kernel
theorem dX5_join_18 : decode cX5_join 18 = .ok (.iload_n 1, 1) := by decide +kernel
theorem dX5_join_19 : decode cX5_join 19 = .ok (.iload_n 2, 1) := by decide +kernel
theorem dX5_join_20 : decode cX5_join 20 = .ok (.invokevirtual 144, 3) := by decide +kernel
theorem dX5_join_23 : decode cX5_join 23 = .ok (.ireturn, 1) := by decide +kernel
set_option maxRecDepth 20000 in
theorem ggX5_whyNotFolded_X5_isSketch : GoodIn wsX5_whyNotFolded wsX5_isSketch := goodIn_r _ [4, 5, 6, 3, 7] (by decide +kernel) (by decide +kernel)
set_option maxRecDepth 20000 in
theorem gX5_whyNotFolded_X5_isSketch : GoodIn wsX5_whyNotFolded (va_wsS RX5 124 yX5_isSketch wsX5_isSketch) := goodIn_app (goodIn_of _ (by decide +kernel)) ggX5_whyNotFolded_X5_isSketch
set_option maxRecDepth 20000 in
theorem ggX5_whyNotFolded_X5_part : GoodIn wsX5_whyNotFolded wsX5_part := goodIn_r _ [11, 12, 13, 14, 15, 16, 17, 18, 19, 20, 21, 22, 23, 24, 25] (by decide +kernel) (by decide +kernel)
set_option maxRecDepth 20000 in
theorem gX5_whyNotFolded_X5_part : GoodIn wsX5_whyNotFolded (wsV RX5 48 RX5 yX5_part wsX5_part) := goodIn_app (goodIn_of _ (by decide +kernel)) ggX5_whyNotFolded_X5_part
theorem dX5_whyNotFolded_0 : decode cX5_whyNotFolded 0 = .ok (.iload_n 1, 1) := by decide +kernel
theorem dX5_whyNotFolded_1 : decode cX5_whyNotFolded 1 = .ok (.invokestatic 124, 3) := by decide +kernel
theorem dX5_whyNotFolded_4 : decode cX5_whyNotFolded 4 = .ok (.ifCond .ne 7, 3) := by decide +kernel
theorem dX5_whyNotFolded_7 : decode cX5_whyNotFolded 7 = .ok (.iconst (-1), 1) := by decide +kernel
theorem dX5_whyNotFolded_8 : decode cX5_whyNotFolded 8 = .ok (.goto 19, 3) := by decide +kernel
theorem dX5_whyNotFolded_11 : decode cX5_whyNotFolded 11 = .ok (.aload_n 0, 1) := by decide +kernel
theorem dX5_whyNotFolded_12 : decode cX5_whyNotFolded 12 = .ok (.iload_n 1, 1) := by decide +kernel
theorem dX5_whyNotFolded_13 : decode cX5_whyNotFolded 13 = .ok (.iconst 0, 1) := by decide +kernel
theorem dX5_whyNotFolded_14 : decode cX5_whyNotFolded 14 = .ok (.invokevirtual 48, 3) := by decide +kernel
theorem dX5_whyNotFolded_17 : decode cX5_whyNotFolded 17 = .ok (.iconst 2, 1) := by decide +kernel
theorem dX5_whyNotFolded_18 : decode cX5_whyNotFolded 18 = .ok (.if_icmp .ne 8, 3) := by decide +kernel
theorem dX5_whyNotFolded_21 : decode cX5_whyNotFolded 21 = .ok (.bipush (-5), 2) := by decide +kernel
theorem dX5_whyNotFolded_23 : decode cX5_whyNotFolded 23 = .ok (.goto 4, 3) := by decide +kernel
theorem dX5_whyNotFolded_26 : decode cX5_whyNotFolded 26 = .ok (.iconst 0, 1) := by decide +kernel
theorem dX5_whyNotFolded_27 : decode cX5_whyNotFolded 27 = .ok (.ireturn, 1) := by decide +kernel
set_option maxRecDepth 20000 in
theorem ggX5_folds_X5_bucketsOf : GoodIn wsX5_folds wsX5_bucketsOf := goodIn_r _ [5, 6, 7, 8, 4, 9, 10, 15, 16, 17, 18, 19, 20, 21, 22, 23, 24, 25, 26, 27] (by decide +kernel) (by decide +kernel)
set_option maxRecDepth 20000 in
theorem gX5_folds_X5_bucketsOf : GoodIn wsX5_folds (wsV RX5 59 RX5 yX5_bucketsOf wsX5_bucketsOf) := goodIn_app (goodIn_of _ (by decide +kernel)) ggX5_folds_X5_bucketsOf
set_option maxRecDepth 20000 in
theorem ggX5_folds_X5_part : GoodIn wsX5_folds wsX5_part := goodIn_r _ [9, 10, 15, 16, 17, 18, 19, 20, 21, 22, 23, 24, 25, 26, 27] (by decide +kernel) (by decide +kernel)
set_option maxRecDepth 20000 in
theorem gX5_folds_X5_part : GoodIn wsX5_folds (wsV RX5 48 RX5 yX5_part wsX5_part) := goodIn_app (goodIn_of _ (by decide +kernel)) ggX5_folds_X5_part
set_option maxRecDepth 20000 in
theorem ggX5_folds_X5_setPart : GoodIn wsX5_folds wsX5_setPart := goodIn_r _ [14, 10, 15, 16, 17, 18, 19, 20, 21, 22, 23, 24, 25, 26, 27] (by decide +kernel) (by decide +kernel)
set_option maxRecDepth 20000 in
theorem gX5_folds_X5_setPart : GoodIn wsX5_folds (wsV RX5 31 RX5 yX5_setPart wsX5_setPart) := goodIn_app (goodIn_of _ (by decide +kernel)) ggX5_folds_X5_setPart
theorem dX5_folds_0 : decode cX5_folds 0 = .ok (.aload_n 0, 1) := by decide +kernel
theorem dX5_folds_1 : decode cX5_folds 1 = .ok (.iload_n 1, 1) := by decide +kernel
theorem dX5_folds_2 : decode cX5_folds 2 = .ok (.invokevirtual 59, 3) := by decide +kernel
theorem dX5_folds_5 : decode cX5_folds 5 = .ok (.iconst 2, 1) := by decide +kernel
theorem dX5_folds_6 : decode cX5_folds 6 = .ok (.idiv, 1) := by decide +kernel
theorem dX5_folds_7 : decode cX5_folds 7 = .ok (.istore_n 2, 1) := by decide +kernel
theorem dX5_folds_8 : decode cX5_folds 8 = .ok (.iconst 0, 1) := by decide +kernel
theorem dX5_folds_9 : decode cX5_folds 9 = .ok (.istore_n 3, 1) := by decide +kernel
theorem dX5_folds_10 : decode cX5_folds 10 = .ok (.iload_n 3, 1) := by decide +kernel
theorem dX5_folds_11 : decode cX5_folds 11 = .ok (.iload_n 2, 1) := by decide +kernel
theorem dX5_folds_12 : decode cX5_folds 12 = .ok (.if_icmp .ge 72, 3) := by decide +kernel
theorem dX5_folds_15 : decode cX5_folds 15 = .ok (.aload_n 0, 1) := by decide +kernel
theorem dX5_folds_16 : decode cX5_folds 16 = .ok (.iload_n 1, 1) := by decide +kernel
theorem dX5_folds_17 : decode cX5_folds 17 = .ok (.iconst 2, 1) := by decide +kernel
theorem dX5_folds_18 : decode cX5_folds 18 = .ok (.iload_n 3, 1) := by decide +kernel
theorem dX5_folds_19 : decode cX5_folds 19 = .ok (.iadd, 1) := by decide +kernel
theorem dX5_folds_20 : decode cX5_folds 20 = .ok (.invokevirtual 48, 3) := by decide +kernel
theorem dX5_folds_23 : decode cX5_folds 23 = .ok (.istore 4, 2) := by decide +kernel
theorem dX5_folds_25 : decode cX5_folds 25 = .ok (.aload_n 0, 1) := by decide +kernel
theorem dX5_folds_26 : decode cX5_folds 26 = .ok (.iload_n 1, 1) := by decide +kernel
theorem dX5_folds_27 : decode cX5_folds 27 = .ok (.iconst 2, 1) := by decide +kernel
theorem dX5_folds_28 : decode cX5_folds 28 = .ok (.iload_n 2, 1) := by decide +kernel
theorem dX5_folds_29 : decode cX5_folds 29 = .ok (.iadd, 1) := by decide +kernel
theorem dX5_folds_30 : decode cX5_folds 30 = .ok (.iload_n 3, 1) := by decide +kernel
theorem dX5_folds_31 : decode cX5_folds 31 = .ok (.iadd, 1) := by decide +kernel
theorem dX5_folds_32 : decode cX5_folds 32 = .ok (.invokevirtual 48, 3) := by decide +kernel
theorem dX5_folds_35 : decode cX5_folds 35 = .ok (.istore 5, 2) := by decide +kernel
theorem dX5_folds_37 : decode cX5_folds 37 = .ok (.aload_n 0, 1) := by decide +kernel
theorem dX5_folds_38 : decode cX5_folds 38 = .ok (.iload_n 1, 1) := by decide +kernel
theorem dX5_folds_39 : decode cX5_folds 39 = .ok (.iconst 2, 1) := by decide +kernel
theorem dX5_folds_40 : decode cX5_folds 40 = .ok (.iload_n 3, 1) := by decide +kernel
theorem dX5_folds_41 : decode cX5_folds 41 = .ok (.iadd, 1) := by decide +kernel
theorem dX5_folds_42 : decode cX5_folds 42 = .ok (.iload 4, 2) := by decide +kernel
theorem dX5_folds_44 : decode cX5_folds 44 = .ok (.ifCond .le 10, 3) := by decide +kernel
theorem dX5_folds_47 : decode cX5_folds 47 = .ok (.iload 4, 2) := by decide +kernel
theorem dX5_folds_49 : decode cX5_folds 49 = .ok (.iconst 1, 1) := by decide +kernel
theorem dX5_folds_50 : decode cX5_folds 50 = .ok (.iadd, 1) := by decide +kernel
theorem dX5_folds_51 : decode cX5_folds 51 = .ok (.goto 13, 3) := by decide +kernel
theorem dX5_folds_54 : decode cX5_folds 54 = .ok (.iload 5, 2) := by decide +kernel
theorem dX5_folds_56 : decode cX5_folds 56 = .ok (.ifCond .le 7, 3) := by decide +kernel
theorem dX5_folds_59 : decode cX5_folds 59 = .ok (.iconst 1, 1) := by decide +kernel
theorem dX5_folds_60 : decode cX5_folds 60 = .ok (.goto 4, 3) := by decide +kernel
theorem dX5_folds_63 : decode cX5_folds 63 = .ok (.iconst 0, 1) := by decide +kernel
theorem dX5_folds_64 : decode cX5_folds 64 = .ok (.invokevirtual 31, 3) := by decide +kernel
theorem dX5_folds_67 : decode cX5_folds 67 = .ok (.aload_n 0, 1) := by decide +kernel
theorem dX5_folds_68 : decode cX5_folds 68 = .ok (.iload_n 1, 1) := by decide +kernel
theorem dX5_folds_69 : decode cX5_folds 69 = .ok (.iconst 2, 1) := by decide +kernel
theorem dX5_folds_70 : decode cX5_folds 70 = .ok (.iload_n 2, 1) := by decide +kernel
theorem dX5_folds_71 : decode cX5_folds 71 = .ok (.iadd, 1) := by decide +kernel
theorem dX5_folds_72 : decode cX5_folds 72 = .ok (.iload_n 3, 1) := by decide +kernel
theorem dX5_folds_73 : decode cX5_folds 73 = .ok (.iadd, 1) := by decide +kernel
theorem dX5_folds_74 : decode cX5_folds 74 = .ok (.iconst 0, 1) := by decide +kernel
theorem dX5_folds_75 : decode cX5_folds 75 = .ok (.invokevirtual 31, 3) := by decide +kernel
theorem dX5_folds_78 : decode cX5_folds 78 = .ok (.iinc 3 1, 3) := by decide +kernel
theorem dX5_folds_81 : decode cX5_folds 81 = .ok (.goto (-71), 3) := by decide +kernel
theorem dX5_folds_84 : decode cX5_folds 84 = .ok (.aload_n 0, 1) := by decide +kernel
theorem dX5_folds_85 : decode cX5_folds 85 = .ok (.iload_n 1, 1) := by decide +kernel
theorem dX5_folds_86 : decode cX5_folds 86 = .ok (.iconst 0, 1) := by decide +kernel
theorem dX5_folds_87 : decode cX5_folds 87 = .ok (.aload_n 0, 1) := by decide +kernel
theorem dX5_folds_88 : decode cX5_folds 88 = .ok (.iload_n 1, 1) := by decide +kernel
theorem dX5_folds_89 : decode cX5_folds 89 = .ok (.iconst 0, 1) := by decide +kernel
theorem dX5_folds_90 : decode cX5_folds 90 = .ok (.invokevirtual 48, 3) := by decide +kernel
theorem dX5_folds_93 : decode cX5_folds 93 = .ok (.iconst 1, 1) := by decide +kernel
theorem dX5_folds_94 : decode cX5_folds 94 = .ok (.isub, 1) := by decide +kernel
theorem dX5_folds_95 : decode cX5_folds 95 = .ok (.invokevirtual 31, 3) := by decide +kernel
theorem dX5_folds_98 : decode cX5_folds 98 = .ok (.iload_n 2, 1) := by decide +kernel
theorem dX5_folds_99 : decode cX5_folds 99 = .ok (.ireturn, 1) := by decide +kernel
set_option maxRecDepth 20000 in
theorem ggX5_fold_X5_whyNotFolded : GoodIn wsX5_fold wsX5_whyNotFolded := goodIn_r _ [5, 6, 7, 4, 8, 9, 10, 11, 12, 13, 14, 15, 16, 38, 39, 40, 41, 42, 43, 44, 45, 46, 47, 48, 49, 50] (by decide +kernel) (by decide +kernel)
set_option maxRecDepth 20000 in
theorem gX5_fold_X5_whyNotFolded : GoodIn wsX5_fold (wsV RX5 147 RX5 yX5_whyNotFolded wsX5_whyNotFolded) := goodIn_app (goodIn_of _ (by decide +kernel)) ggX5_fold_X5_whyNotFolded
set_option maxRecDepth 20000 in
theorem ggX5_fold_X5_record : GoodIn wsX5_fold wsX5_record := goodIn_r _ [20, 21, 22, 16, 23, 24, 4, 25, 38, 39, 40, 41, 42, 43, 44, 45, 46, 47, 48, 49, 50] (by decide +kernel) (by decide +kernel)
set_option maxRecDepth 20000 in
theorem gX5_fold_X5_record : GoodIn wsX5_fold (wsV RX5 118 RX5 yX5_record wsX5_record) := goodIn_app (goodIn_of _ (by decide +kernel)) ggX5_fold_X5_record
set_option maxRecDepth 20000 in
theorem ggX5_fold_X5_folds : GoodIn wsX5_fold wsX5_folds := goodIn_r _ [29, 30, 31, 32, 4, 33, 12, 13, 14, 15, 16, 34, 35, 36, 37, 38, 39, 40, 41, 42, 43, 44, 45, 46, 47, 48, 49, 50] (by decide +kernel) (by decide +kernel)
set_option maxRecDepth 20000 in
theorem gX5_fold_X5_folds : GoodIn wsX5_fold (wsV RX5 150 RX5 yX5_folds wsX5_folds) := goodIn_app (goodIn_of _ (by decide +kernel)) ggX5_fold_X5_folds
theorem dX5_fold_0 : decode cX5_fold 0 = .ok (.aload_n 0, 1) := by decide +kernel
theorem dX5_fold_1 : decode cX5_fold 1 = .ok (.iload_n 1, 1) := by decide +kernel
theorem dX5_fold_2 : decode cX5_fold 2 = .ok (.invokevirtual 147, 3) := by decide +kernel
theorem dX5_fold_5 : decode cX5_fold 5 = .ok (.istore_n 2, 1) := by decide +kernel
theorem dX5_fold_6 : decode cX5_fold 6 = .ok (.iload_n 2, 1) := by decide +kernel
theorem dX5_fold_7 : decode cX5_fold 7 = .ok (.ifCond .ge 5, 3) := by decide +kernel
theorem dX5_fold_10 : decode cX5_fold 10 = .ok (.iload_n 2, 1) := by decide +kernel
theorem dX5_fold_11 : decode cX5_fold 11 = .ok (.ireturn, 1) := by decide +kernel
theorem dX5_fold_12 : decode cX5_fold 12 = .ok (.aload_n 0, 1) := by decide +kernel
theorem dX5_fold_13 : decode cX5_fold 13 = .ok (.invokevirtual 118, 3) := by decide +kernel
theorem dX5_fold_16 : decode cX5_fold 16 = .ok (.aload_n 0, 1) := by decide +kernel
theorem dX5_fold_17 : decode cX5_fold 17 = .ok (.iload_n 1, 1) := by decide +kernel
theorem dX5_fold_18 : decode cX5_fold 18 = .ok (.invokevirtual 150, 3) := by decide +kernel
theorem dX5_fold_21 : decode cX5_fold 21 = .ok (.ireturn, 1) := by decide +kernel
set_option maxRecDepth 20000 in
theorem ggX5_empty_X5_isSketch : GoodIn wsX5_empty wsX5_isSketch := goodIn_r _ [4, 5, 6, 3, 7] (by decide +kernel) (by decide +kernel)
set_option maxRecDepth 20000 in
theorem gX5_empty_X5_isSketch : GoodIn wsX5_empty (va_wsS RX5 124 yX5_isSketch wsX5_isSketch) := goodIn_app (goodIn_of _ (by decide +kernel)) ggX5_empty_X5_isSketch
set_option maxRecDepth 20000 in
theorem ggX5_empty_X5_record : GoodIn wsX5_empty wsX5_record := goodIn_r _ [11, 12, 13, 14, 15, 16, 3, 17, 38, 39, 40, 41, 42, 43, 44, 45, 46, 47, 48, 49, 50] (by decide +kernel) (by decide +kernel)
set_option maxRecDepth 20000 in
theorem gX5_empty_X5_record : GoodIn wsX5_empty (wsV RX5 118 RX5 yX5_record wsX5_record) := goodIn_app (goodIn_of _ (by decide +kernel)) ggX5_empty_X5_record
set_option maxRecDepth 20000 in
theorem ggX5_empty_X5_empties : GoodIn wsX5_empty wsX5_empties := goodIn_r _ [21, 22, 23, 24, 3, 25, 26, 27, 28, 29, 30, 31, 32, 33, 14, 34, 35, 36, 37, 38, 39, 40, 41, 42, 43, 44, 45, 46, 47, 48, 49, 50] (by decide +kernel) (by decide +kernel)
set_option maxRecDepth 20000 in
theorem gX5_empty_X5_empties : GoodIn wsX5_empty (wsV RX5 121 RX5 yX5_empties wsX5_empties) := goodIn_app (goodIn_of _ (by decide +kernel)) ggX5_empty_X5_empties
theorem dX5_empty_0 : decode cX5_empty 0 = .ok (.iload_n 1, 1) := by decide +kernel
theorem dX5_empty_1 : decode cX5_empty 1 = .ok (.invokestatic 124, 3) := by decide +kernel
theorem dX5_empty_4 : decode cX5_empty 4 = .ok (.ifCond .ne 5, 3) := by decide +kernel
theorem dX5_empty_7 : decode cX5_empty 7 = .ok (.iconst (-1), 1) := by decide +kernel
theorem dX5_empty_8 : decode cX5_empty 8 = .ok (.ireturn, 1) := by decide +kernel
theorem dX5_empty_9 : decode cX5_empty 9 = .ok (.aload_n 0, 1) := by decide +kernel
theorem dX5_empty_10 : decode cX5_empty 10 = .ok (.invokevirtual 118, 3) := by decide +kernel
theorem dX5_empty_13 : decode cX5_empty 13 = .ok (.aload_n 0, 1) := by decide +kernel
theorem dX5_empty_14 : decode cX5_empty 14 = .ok (.iload_n 1, 1) := by decide +kernel
theorem dX5_empty_15 : decode cX5_empty 15 = .ok (.invokevirtual 121, 3) := by decide +kernel
theorem dX5_empty_18 : decode cX5_empty 18 = .ok (.ireturn, 1) := by decide +kernel
set_option maxRecDepth 20000 in
theorem ggX5_thing_X5_isSketch : GoodIn wsX5_thing wsX5_isSketch := goodIn_r _ [5, 6, 7, 4, 8] (by decide +kernel) (by decide +kernel)
set_option maxRecDepth 20000 in
theorem gX5_thing_X5_isSketch : GoodIn wsX5_thing (va_wsS RX5 124 yX5_isSketch wsX5_isSketch) := goodIn_app (goodIn_of _ (by decide +kernel)) ggX5_thing_X5_isSketch
set_option maxRecDepth 20000 in
theorem ggX5_thing_X5_isThing : GoodIn wsX5_thing wsX5_isThing := goodIn_r _ [11, 12, 6, 7, 4, 8] (by decide +kernel) (by decide +kernel)
set_option maxRecDepth 20000 in
theorem gX5_thing_X5_isThing : GoodIn wsX5_thing (va_wsS RX5 127 yX5_isThing wsX5_isThing) := goodIn_app (goodIn_of _ (by decide +kernel)) ggX5_thing_X5_isThing
set_option maxRecDepth 20000 in
theorem ggX5_thing_X5_hashOf : GoodIn wsX5_thing wsX5_hashOf := goodIn_r _ [15, 16, 17] (by decide +kernel) (by decide +kernel)
set_option maxRecDepth 20000 in
theorem gX5_thing_X5_hashOf : GoodIn wsX5_thing (va_wsS RX5 56 yX5_hashOf wsX5_hashOf) := goodIn_app (goodIn_of _ (by decide +kernel)) ggX5_thing_X5_hashOf
set_option maxRecDepth 20000 in
theorem ggX5_thing_X5_bucketOf : GoodIn wsX5_thing wsX5_bucketOf := goodIn_r _ [21, 1, 13, 14, 4, 15, 16, 17, 22, 23, 24, 25, 26, 27, 28, 29, 41, 42, 43, 44, 45, 46, 47, 48, 49, 50, 51, 52, 53] (by decide +kernel) (by decide +kernel)
set_option maxRecDepth 20000 in
theorem gX5_thing_X5_bucketOf : GoodIn wsX5_thing (wsV RX5 69 RX5 yX5_bucketOf wsX5_bucketOf) := goodIn_app (goodIn_of _ (by decide +kernel)) ggX5_thing_X5_bucketOf
set_option maxRecDepth 20000 in
theorem ggX5_thing_X5_rankIn : GoodIn wsX5_thing wsX5_rankIn := goodIn_r _ [33, 1, 13, 14, 4, 15, 16, 17, 26, 27, 28, 29, 34, 35, 36, 41, 42, 43, 44, 45, 46, 47, 48, 49, 50, 51, 52, 53] (by decide +kernel) (by decide +kernel)
set_option maxRecDepth 20000 in
theorem gX5_thing_X5_rankIn : GoodIn wsX5_thing (wsV RX5 66 RX5 yX5_rankIn wsX5_rankIn) := goodIn_app (goodIn_of _ (by decide +kernel)) ggX5_thing_X5_rankIn
set_option maxRecDepth 20000 in
theorem ggX5_thing_X5_wouldChange : GoodIn wsX5_thing wsX5_wouldChange := goodIn_r _ [40, 30, 31, 32, 4, 33, 1, 13, 14, 15, 16, 17, 26, 27, 28, 29, 34, 35, 36, 18, 19, 20, 21, 22, 23, 24, 25, 41, 42, 43, 44, 45, 46, 47, 48, 49, 50, 51, 52, 53] (by decide +kernel) (by decide +kernel)
set_option maxRecDepth 20000 in
theorem gX5_thing_X5_wouldChange : GoodIn wsX5_thing (wsV RX5 110 RX5 yX5_wouldChange wsX5_wouldChange) := goodIn_app (goodIn_of _ (by decide +kernel)) ggX5_thing_X5_wouldChange
theorem dX5_thing_0 : decode cX5_thing 0 = .ok (.iload_n 1, 1) := by decide +kernel
theorem dX5_thing_1 : decode cX5_thing 1 = .ok (.invokestatic 124, 3) := by decide +kernel
theorem dX5_thing_4 : decode cX5_thing 4 = .ok (.ifCond .ne 5, 3) := by decide +kernel
theorem dX5_thing_7 : decode cX5_thing 7 = .ok (.iconst (-1), 1) := by decide +kernel
theorem dX5_thing_8 : decode cX5_thing 8 = .ok (.ireturn, 1) := by decide +kernel
theorem dX5_thing_9 : decode cX5_thing 9 = .ok (.iload_n 2, 1) := by decide +kernel
theorem dX5_thing_10 : decode cX5_thing 10 = .ok (.invokestatic 127, 3) := by decide +kernel
theorem dX5_thing_13 : decode cX5_thing 13 = .ok (.ifCond .ne 6, 3) := by decide +kernel
theorem dX5_thing_16 : decode cX5_thing 16 = .ok (.bipush (-2), 2) := by decide +kernel
theorem dX5_thing_18 : decode cX5_thing 18 = .ok (.ireturn, 1) := by decide +kernel
theorem dX5_thing_19 : decode cX5_thing 19 = .ok (.iload_n 3, 1) := by decide +kernel
theorem dX5_thing_20 : decode cX5_thing 20 = .ok (.tableswitch 72 0 3 #[32, 43, 50, 57], 32) := by decide +kernel
theorem dX5_thing_52 : decode cX5_thing 52 = .ok (.iload_n 2, 1) := by decide +kernel
theorem dX5_thing_53 : decode cX5_thing 53 = .ok (.aload_n 0, 1) := by decide +kernel
theorem dX5_thing_54 : decode cX5_thing 54 = .ok (.getfield 7, 3) := by decide +kernel
theorem dX5_thing_57 : decode cX5_thing 57 = .ok (.iconst 0, 1) := by decide +kernel
theorem dX5_thing_58 : decode cX5_thing 58 = .ok (.iaload, 1) := by decide +kernel
theorem dX5_thing_59 : decode cX5_thing 59 = .ok (.invokestatic 56, 3) := by decide +kernel
theorem dX5_thing_62 : decode cX5_thing 62 = .ok (.ireturn, 1) := by decide +kernel
theorem dX5_thing_63 : decode cX5_thing 63 = .ok (.aload_n 0, 1) := by decide +kernel
theorem dX5_thing_64 : decode cX5_thing 64 = .ok (.iload_n 1, 1) := by decide +kernel
theorem dX5_thing_65 : decode cX5_thing 65 = .ok (.iload_n 2, 1) := by decide +kernel
theorem dX5_thing_66 : decode cX5_thing 66 = .ok (.invokevirtual 69, 3) := by decide +kernel
theorem dX5_thing_69 : decode cX5_thing 69 = .ok (.ireturn, 1) := by decide +kernel
theorem dX5_thing_70 : decode cX5_thing 70 = .ok (.aload_n 0, 1) := by decide +kernel
theorem dX5_thing_71 : decode cX5_thing 71 = .ok (.iload_n 1, 1) := by decide +kernel
theorem dX5_thing_72 : decode cX5_thing 72 = .ok (.iload_n 2, 1) := by decide +kernel
theorem dX5_thing_73 : decode cX5_thing 73 = .ok (.invokevirtual 66, 3) := by decide +kernel
theorem dX5_thing_76 : decode cX5_thing 76 = .ok (.ireturn, 1) := by decide +kernel
theorem dX5_thing_77 : decode cX5_thing 77 = .ok (.aload_n 0, 1) := by decide +kernel
theorem dX5_thing_78 : decode cX5_thing 78 = .ok (.iload_n 1, 1) := by decide +kernel
theorem dX5_thing_79 : decode cX5_thing 79 = .ok (.iload_n 2, 1) := by decide +kernel
theorem dX5_thing_80 : decode cX5_thing 80 = .ok (.invokevirtual 110, 3) := by decide +kernel
theorem dX5_thing_83 : decode cX5_thing 83 = .ok (.ifCond .eq 7, 3) := by decide +kernel
theorem dX5_thing_86 : decode cX5_thing 86 = .ok (.iconst 1, 1) := by decide +kernel
theorem dX5_thing_87 : decode cX5_thing 87 = .ok (.goto 4, 3) := by decide +kernel
theorem dX5_thing_90 : decode cX5_thing 90 = .ok (.iconst 0, 1) := by decide +kernel
theorem dX5_thing_91 : decode cX5_thing 91 = .ok (.ireturn, 1) := by decide +kernel
theorem dX5_thing_92 : decode cX5_thing 92 = .ok (.bipush (-2), 2) := by decide +kernel
theorem dX5_thing_94 : decode cX5_thing 94 = .ok (.ireturn, 1) := by decide +kernel
set_option maxRecDepth 20000 in
theorem ggX5_bucket_X5_isSketch : GoodIn wsX5_bucket wsX5_isSketch := goodIn_r _ [4, 5, 6, 3, 7] (by decide +kernel) (by decide +kernel)
set_option maxRecDepth 20000 in
theorem gX5_bucket_X5_isSketch : GoodIn wsX5_bucket (va_wsS RX5 124 yX5_isSketch wsX5_isSketch) := goodIn_app (goodIn_of _ (by decide +kernel)) ggX5_bucket_X5_isSketch
set_option maxRecDepth 20000 in
theorem ggX5_bucket_X5_bucketsOf : GoodIn wsX5_bucket wsX5_bucketsOf := goodIn_r _ [11, 12, 13, 14, 3, 15, 16, 17, 18, 19, 20, 21, 22, 23, 24, 25, 26, 27, 28, 29] (by decide +kernel) (by decide +kernel)
set_option maxRecDepth 20000 in
theorem gX5_bucket_X5_bucketsOf : GoodIn wsX5_bucket (wsV RX5 59 RX5 yX5_bucketsOf wsX5_bucketsOf) := goodIn_app (goodIn_of _ (by decide +kernel)) ggX5_bucket_X5_bucketsOf
set_option maxRecDepth 20000 in
theorem ggX5_bucket_X5_within : GoodIn wsX5_bucket wsX5_within := goodIn_r _ [7] (by decide +kernel) (by decide +kernel)
set_option maxRecDepth 20000 in
theorem gX5_bucket_X5_within : GoodIn wsX5_bucket (va_wsS RX5 43 yX5_within wsX5_within) := goodIn_app (goodIn_of _ (by decide +kernel)) ggX5_bucket_X5_within
set_option maxRecDepth 20000 in
theorem ggX5_bucket_X5_part : GoodIn wsX5_bucket wsX5_part := goodIn_r _ [15, 16, 17, 18, 19, 20, 21, 22, 23, 24, 25, 26, 27, 28, 29] (by decide +kernel) (by decide +kernel)
set_option maxRecDepth 20000 in
theorem gX5_bucket_X5_part : GoodIn wsX5_bucket (wsV RX5 48 RX5 yX5_part wsX5_part) := goodIn_app (goodIn_of _ (by decide +kernel)) ggX5_bucket_X5_part
