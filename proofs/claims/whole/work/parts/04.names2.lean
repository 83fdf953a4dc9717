theorem dX3_filledSketches_0 : decode cX3_filledSketches 0 = .ok (.iconst 0, 1) := by decide +kernel
theorem dX3_filledSketches_1 : decode cX3_filledSketches 1 = .ok (.istore_n 1, 1) := by decide +kernel
theorem dX3_filledSketches_2 : decode cX3_filledSketches 2 = .ok (.aload_n 0, 1) := by decide +kernel
theorem dX3_filledSketches_3 : decode cX3_filledSketches 3 = .ok (.getfield 17, 3) := by decide +kernel
theorem dX3_filledSketches_6 : decode cX3_filledSketches 6 = .ok (.astore_n 2, 1) := by decide +kernel
theorem dX3_filledSketches_7 : decode cX3_filledSketches 7 = .ok (.aload_n 2, 1) := by decide +kernel
theorem dX3_filledSketches_8 : decode cX3_filledSketches 8 = .ok (.arraylength, 1) := by decide +kernel
theorem dX3_filledSketches_9 : decode cX3_filledSketches 9 = .ok (.istore_n 3, 1) := by decide +kernel
theorem dX3_filledSketches_10 : decode cX3_filledSketches 10 = .ok (.iconst 0, 1) := by decide +kernel
theorem dX3_filledSketches_11 : decode cX3_filledSketches 11 = .ok (.istore 4, 2) := by decide +kernel
theorem dX3_filledSketches_13 : decode cX3_filledSketches 13 = .ok (.iload 4, 2) := by decide +kernel
theorem dX3_filledSketches_15 : decode cX3_filledSketches 15 = .ok (.iload_n 3, 1) := by decide +kernel
theorem dX3_filledSketches_16 : decode cX3_filledSketches 16 = .ok (.if_icmp .ge 26, 3) := by decide +kernel
theorem dX3_filledSketches_19 : decode cX3_filledSketches 19 = .ok (.aload_n 2, 1) := by decide +kernel
theorem dX3_filledSketches_20 : decode cX3_filledSketches 20 = .ok (.iload 4, 2) := by decide +kernel
theorem dX3_filledSketches_22 : decode cX3_filledSketches 22 = .ok (.aaload, 1) := by decide +kernel
theorem dX3_filledSketches_23 : decode cX3_filledSketches 23 = .ok (.astore 5, 2) := by decide +kernel
theorem dX3_filledSketches_25 : decode cX3_filledSketches 25 = .ok (.aload 5, 2) := by decide +kernel
theorem dX3_filledSketches_27 : decode cX3_filledSketches 27 = .ok (.invokevirtual 33, 3) := by decide +kernel
theorem dX3_filledSketches_30 : decode cX3_filledSketches 30 = .ok (.ifCond .le 6, 3) := by decide +kernel
theorem dX3_filledSketches_33 : decode cX3_filledSketches 33 = .ok (.iinc 1 1, 3) := by decide +kernel
theorem dX3_filledSketches_36 : decode cX3_filledSketches 36 = .ok (.iinc 4 1, 3) := by decide +kernel
theorem dX3_filledSketches_39 : decode cX3_filledSketches 39 = .ok (.goto (-26), 3) := by decide +kernel
theorem dX3_filledSketches_42 : decode cX3_filledSketches 42 = .ok (.iload_n 1, 1) := by decide +kernel
theorem dX3_filledSketches_43 : decode cX3_filledSketches 43 = .ok (.ireturn, 1) := by decide +kernel
set_option maxRecDepth 20000 in
theorem ggX3_filledBuckets_X2_filledBuckets : GoodIn wsX3_filledBuckets wsX2_filledBuckets := goodIn_r _ [6, 7, 8, 9, 5, 10, 11, 12, 13, 14, 15, 16, 17, 18, 19, 20, 23, 24, 25, 26, 27] (by decide +kernel) (by decide +kernel)
set_option maxRecDepth 20000 in
theorem gX3_filledBuckets_X2_filledBuckets : GoodIn wsX3_filledBuckets (wsV RX3 33 RX2 yX2_filledBuckets wsX2_filledBuckets) := goodIn_app (goodIn_of _ (by decide +kernel)) ggX3_filledBuckets_X2_filledBuckets
theorem dX3_filledBuckets_0 : decode cX3_filledBuckets 0 = .ok (.iconst 0, 1) := by decide +kernel
theorem dX3_filledBuckets_1 : decode cX3_filledBuckets 1 = .ok (.istore_n 1, 1) := by decide +kernel
theorem dX3_filledBuckets_2 : decode cX3_filledBuckets 2 = .ok (.aload_n 0, 1) := by decide +kernel
theorem dX3_filledBuckets_3 : decode cX3_filledBuckets 3 = .ok (.getfield 17, 3) := by decide +kernel
theorem dX3_filledBuckets_6 : decode cX3_filledBuckets 6 = .ok (.astore_n 2, 1) := by decide +kernel
theorem dX3_filledBuckets_7 : decode cX3_filledBuckets 7 = .ok (.aload_n 2, 1) := by decide +kernel
theorem dX3_filledBuckets_8 : decode cX3_filledBuckets 8 = .ok (.arraylength, 1) := by decide +kernel
theorem dX3_filledBuckets_9 : decode cX3_filledBuckets 9 = .ok (.istore_n 3, 1) := by decide +kernel
theorem dX3_filledBuckets_10 : decode cX3_filledBuckets 10 = .ok (.iconst 0, 1) := by decide +kernel
theorem dX3_filledBuckets_11 : decode cX3_filledBuckets 11 = .ok (.istore 4, 2) := by decide +kernel
theorem dX3_filledBuckets_13 : decode cX3_filledBuckets 13 = .ok (.iload 4, 2) := by decide +kernel
theorem dX3_filledBuckets_15 : decode cX3_filledBuckets 15 = .ok (.iload_n 3, 1) := by decide +kernel
theorem dX3_filledBuckets_16 : decode cX3_filledBuckets 16 = .ok (.if_icmp .ge 23, 3) := by decide +kernel
theorem dX3_filledBuckets_19 : decode cX3_filledBuckets 19 = .ok (.aload_n 2, 1) := by decide +kernel
theorem dX3_filledBuckets_20 : decode cX3_filledBuckets 20 = .ok (.iload 4, 2) := by decide +kernel
theorem dX3_filledBuckets_22 : decode cX3_filledBuckets 22 = .ok (.aaload, 1) := by decide +kernel
theorem dX3_filledBuckets_23 : decode cX3_filledBuckets 23 = .ok (.astore 5, 2) := by decide +kernel
theorem dX3_filledBuckets_25 : decode cX3_filledBuckets 25 = .ok (.iload_n 1, 1) := by decide +kernel
theorem dX3_filledBuckets_26 : decode cX3_filledBuckets 26 = .ok (.aload 5, 2) := by decide +kernel
theorem dX3_filledBuckets_28 : decode cX3_filledBuckets 28 = .ok (.invokevirtual 33, 3) := by decide +kernel
theorem dX3_filledBuckets_31 : decode cX3_filledBuckets 31 = .ok (.iadd, 1) := by decide +kernel
theorem dX3_filledBuckets_32 : decode cX3_filledBuckets 32 = .ok (.istore_n 1, 1) := by decide +kernel
theorem dX3_filledBuckets_33 : decode cX3_filledBuckets 33 = .ok (.iinc 4 1, 3) := by decide +kernel
theorem dX3_filledBuckets_36 : decode cX3_filledBuckets 36 = .ok (.goto (-23), 3) := by decide +kernel
theorem dX3_filledBuckets_39 : decode cX3_filledBuckets 39 = .ok (.iload_n 1, 1) := by decide +kernel
theorem dX3_filledBuckets_40 : decode cX3_filledBuckets 40 = .ok (.ireturn, 1) := by decide +kernel
theorem dX3_fullLists_0 : decode cX3_fullLists 0 = .ok (.iconst 0, 1) := by decide +kernel
theorem dX3_fullLists_1 : decode cX3_fullLists 1 = .ok (.istore_n 1, 1) := by decide +kernel
theorem dX3_fullLists_2 : decode cX3_fullLists 2 = .ok (.aload_n 0, 1) := by decide +kernel
theorem dX3_fullLists_3 : decode cX3_fullLists 3 = .ok (.getfield 17, 3) := by decide +kernel
theorem dX3_fullLists_6 : decode cX3_fullLists 6 = .ok (.astore_n 2, 1) := by decide +kernel
theorem dX3_fullLists_7 : decode cX3_fullLists 7 = .ok (.aload_n 2, 1) := by decide +kernel
theorem dX3_fullLists_8 : decode cX3_fullLists 8 = .ok (.arraylength, 1) := by decide +kernel
theorem dX3_fullLists_9 : decode cX3_fullLists 9 = .ok (.istore_n 3, 1) := by decide +kernel
theorem dX3_fullLists_10 : decode cX3_fullLists 10 = .ok (.iconst 0, 1) := by decide +kernel
theorem dX3_fullLists_11 : decode cX3_fullLists 11 = .ok (.istore 4, 2) := by decide +kernel
theorem dX3_fullLists_13 : decode cX3_fullLists 13 = .ok (.iload 4, 2) := by decide +kernel
theorem dX3_fullLists_15 : decode cX3_fullLists 15 = .ok (.iload_n 3, 1) := by decide +kernel
theorem dX3_fullLists_16 : decode cX3_fullLists 16 = .ok (.if_icmp .ge 26, 3) := by decide +kernel
theorem dX3_fullLists_19 : decode cX3_fullLists 19 = .ok (.aload_n 2, 1) := by decide +kernel
theorem dX3_fullLists_20 : decode cX3_fullLists 20 = .ok (.iload 4, 2) := by decide +kernel
theorem dX3_fullLists_22 : decode cX3_fullLists 22 = .ok (.aaload, 1) := by decide +kernel
theorem dX3_fullLists_23 : decode cX3_fullLists 23 = .ok (.astore 5, 2) := by decide +kernel
theorem dX3_fullLists_25 : decode cX3_fullLists 25 = .ok (.aload 5, 2) := by decide +kernel
theorem dX3_fullLists_27 : decode cX3_fullLists 27 = .ok (.getfield 37, 3) := by decide +kernel
theorem dX3_fullLists_30 : decode cX3_fullLists 30 = .ok (.ifCond .eq 6, 3) := by decide +kernel
theorem dX3_fullLists_33 : decode cX3_fullLists 33 = .ok (.iinc 1 1, 3) := by decide +kernel
theorem dX3_fullLists_36 : decode cX3_fullLists 36 = .ok (.iinc 4 1, 3) := by decide +kernel
theorem dX3_fullLists_39 : decode cX3_fullLists 39 = .ok (.goto (-26), 3) := by decide +kernel
theorem dX3_fullLists_42 : decode cX3_fullLists 42 = .ok (.iload_n 1, 1) := by decide +kernel
theorem dX3_fullLists_43 : decode cX3_fullLists 43 = .ok (.ireturn, 1) := by decide +kernel
set_option maxRecDepth 20000 in
theorem ggX4_init_X3_init : GoodIn wsX4_init wsX3_init := goodIn_r _ [25, 26, 2, 3, 27, 28, 29, 20, 21, 30, 31, 32, 33, 34, 35, 36, 37, 38, 59, 60, 77, 78, 79, 80, 81] (by decide +kernel) (by decide +kernel)
set_option maxRecDepth 20000 in
theorem gX4_init_X3_init : GoodIn wsX4_init (wsX3_init) := ggX4_init_X3_init
set_option maxRecDepth 20000 in
theorem ggX4_init_X0_init : GoodIn wsX4_init wsX0_init := goodIn_r _ [41, 42, 2, 3, 43, 44, 45, 46, 5, 6, 47, 24, 25, 26, 27, 28, 29, 20, 21, 30, 31, 32, 33, 34, 35, 36, 37, 38, 67, 68, 69, 59, 60, 77, 78, 79, 80, 81] (by decide +kernel) (by decide +kernel)
set_option maxRecDepth 20000 in
theorem gX4_init_X0_init : GoodIn wsX4_init (wsX0_init) := ggX4_init_X0_init
set_option maxRecDepth 20000 in
theorem ggX4_init_X1_init : GoodIn wsX4_init wsX1_init := goodIn_r _ [49, 50, 2, 3, 51, 52, 53, 54, 55, 56, 34, 57, 58, 70, 71, 72, 73, 74, 75, 76] (by decide +kernel) (by decide +kernel)
set_option maxRecDepth 20000 in
theorem gX4_init_X1_init_n33 : GoodIn wsX4_init (wsX1_init) := ggX4_init_X1_init
set_option maxRecDepth 20000 in
theorem ggX4_init_X2_init : GoodIn wsX4_init wsX2_init := goodIn_r _ [31, 32, 2, 3, 33, 34, 35, 36, 37, 38, 77, 78, 79, 80, 81] (by decide +kernel) (by decide +kernel)
set_option maxRecDepth 20000 in
theorem gX4_init_X2_init_n40 : GoodIn wsX4_init (wsX2_init) := ggX4_init_X2_init
theorem dX4_init_0 : decode cX4_init 0 = .ok (.aload_n 0, 1) := by decide +kernel
theorem dX4_init_1 : decode cX4_init 1 = .ok (.invokespecial 1, 3) := by decide +kernel
theorem dX4_init_4 : decode cX4_init 4 = .ok (.aload_n 0, 1) := by decide +kernel
theorem dX4_init_5 : decode cX4_init 5 = .ok (.new 7, 3) := by decide +kernel
theorem dX4_init_8 : decode cX4_init 8 = .ok (.dup, 1) := by decide +kernel
theorem dX4_init_9 : decode cX4_init 9 = .ok (.invokespecial 9, 3) := by decide +kernel
theorem dX4_init_12 : decode cX4_init 12 = .ok (.putfield 10, 3) := by decide +kernel
theorem dX4_init_15 : decode cX4_init 15 = .ok (.aload_n 0, 1) := by decide +kernel
theorem dX4_init_16 : decode cX4_init 16 = .ok (.new 16, 3) := by decide +kernel
theorem dX4_init_19 : decode cX4_init 19 = .ok (.dup, 1) := by decide +kernel
theorem dX4_init_20 : decode cX4_init 20 = .ok (.invokespecial 18, 3) := by decide +kernel
theorem dX4_init_23 : decode cX4_init 23 = .ok (.putfield 19, 3) := by decide +kernel
theorem dX4_init_26 : decode cX4_init 26 = .ok (.aload_n 0, 1) := by decide +kernel
theorem dX4_init_27 : decode cX4_init 27 = .ok (.iconst 2, 1) := by decide +kernel
theorem dX4_init_28 : decode cX4_init 28 = .ok (.anewarray 7, 3) := by decide +kernel
theorem dX4_init_31 : decode cX4_init 31 = .ok (.putfield 23, 3) := by decide +kernel
theorem dX4_init_34 : decode cX4_init 34 = .ok (.iconst 0, 1) := by decide +kernel
theorem dX4_init_35 : decode cX4_init 35 = .ok (.istore_n 1, 1) := by decide +kernel
theorem dX4_init_36 : decode cX4_init 36 = .ok (.iload_n 1, 1) := by decide +kernel
theorem dX4_init_37 : decode cX4_init 37 = .ok (.iconst 2, 1) := by decide +kernel
theorem dX4_init_38 : decode cX4_init 38 = .ok (.if_icmp .ge 22, 3) := by decide +kernel
theorem dX4_init_41 : decode cX4_init 41 = .ok (.aload_n 0, 1) := by decide +kernel
theorem dX4_init_42 : decode cX4_init 42 = .ok (.getfield 23, 3) := by decide +kernel
theorem dX4_init_45 : decode cX4_init 45 = .ok (.iload_n 1, 1) := by decide +kernel
theorem dX4_init_46 : decode cX4_init 46 = .ok (.new 7, 3) := by decide +kernel
theorem dX4_init_49 : decode cX4_init 49 = .ok (.dup, 1) := by decide +kernel
theorem dX4_init_50 : decode cX4_init 50 = .ok (.invokespecial 9, 3) := by decide +kernel
theorem dX4_init_53 : decode cX4_init 53 = .ok (.aastore, 1) := by decide +kernel
theorem dX4_init_54 : decode cX4_init 54 = .ok (.iinc 1 1, 3) := by decide +kernel
theorem dX4_init_57 : decode cX4_init 57 = .ok (.goto (-21), 3) := by decide +kernel
theorem dX4_init_60 : decode cX4_init 60 = .ok (.aload_n 0, 1) := by decide +kernel
theorem dX4_init_61 : decode cX4_init 61 = .ok (.iconst 2, 1) := by decide +kernel
theorem dX4_init_62 : decode cX4_init 62 = .ok (.newarray .boolean, 2) := by decide +kernel
theorem dX4_init_64 : decode cX4_init 64 = .ok (.putfield 27, 3) := by decide +kernel
theorem dX4_init_67 : decode cX4_init 67 = .ok (.aload_n 0, 1) := by decide +kernel
theorem dX4_init_68 : decode cX4_init 68 = .ok (.new 31, 3) := by decide +kernel
theorem dX4_init_71 : decode cX4_init 71 = .ok (.dup, 1) := by decide +kernel
theorem dX4_init_72 : decode cX4_init 72 = .ok (.invokespecial 33, 3) := by decide +kernel
theorem dX4_init_75 : decode cX4_init 75 = .ok (.putfield 34, 3) := by decide +kernel
theorem dX4_init_78 : decode cX4_init 78 = .ok (.aload_n 0, 1) := by decide +kernel
theorem dX4_init_79 : decode cX4_init 79 = .ok (.new 38, 3) := by decide +kernel
theorem dX4_init_82 : decode cX4_init 82 = .ok (.dup, 1) := by decide +kernel
theorem dX4_init_83 : decode cX4_init 83 = .ok (.invokespecial 40, 3) := by decide +kernel
theorem dX4_init_86 : decode cX4_init 86 = .ok (.putfield 41, 3) := by decide +kernel
theorem dX4_init_89 : decode cX4_init 89 = .ok (.return_, 1) := by decide +kernel
set_option maxRecDepth 20000 in
theorem ggX4_salt_X0_record : GoodIn wsX4_salt wsX0_record := goodIn_r _ [8, 9, 10, 11, 12, 13, 14, 15, 16, 17, 18, 19, 20, 21, 22, 23, 24, 25, 26, 27, 28, 29, 30, 31, 32, 33, 34, 35, 36, 57, 58, 59, 55, 56, 60, 61, 62, 63, 64] (by decide +kernel) (by decide +kernel)
set_option maxRecDepth 20000 in
theorem gX4_salt_X0_record : GoodIn wsX4_salt (wsV RX4 46 RX0 yX0_record wsX0_record) := goodIn_app (goodIn_of _ (by decide +kernel)) ggX4_salt_X0_record
set_option maxRecDepth 20000 in
theorem ggX4_salt_X3_changeSalt : GoodIn wsX4_salt wsX3_changeSalt := goodIn_r _ [40, 21, 22, 41, 42, 43, 26, 44, 28, 29, 35, 36, 45, 46, 47, 48, 55, 56, 60, 61, 62, 63, 64] (by decide +kernel) (by decide +kernel)
set_option maxRecDepth 20000 in
theorem gX4_salt_X3_changeSalt : GoodIn wsX4_salt (wsV RX4 54 RX3 yX3_changeSalt wsX3_changeSalt) := goodIn_app (goodIn_of _ (by decide +kernel)) ggX4_salt_X3_changeSalt
theorem dX4_salt_0 : decode cX4_salt 0 = .ok (.iload_n 1, 1) := by decide +kernel
theorem dX4_salt_1 : decode cX4_salt 1 = .ok (.ifCond .lt 9, 3) := by decide +kernel
theorem dX4_salt_4 : decode cX4_salt 4 = .ok (.iload_n 1, 1) := by decide +kernel
theorem dX4_salt_5 : decode cX4_salt 5 = .ok (.ldc 45, 2) := by decide +kernel
theorem dX4_salt_7 : decode cX4_salt 7 = .ok (.if_icmp .lt 6, 3) := by decide +kernel
theorem dX4_salt_10 : decode cX4_salt 10 = .ok (.bipush (-2), 2) := by decide +kernel
theorem dX4_salt_12 : decode cX4_salt 12 = .ok (.ireturn, 1) := by decide +kernel
theorem dX4_salt_13 : decode cX4_salt 13 = .ok (.aload_n 0, 1) := by decide +kernel
theorem dX4_salt_14 : decode cX4_salt 14 = .ok (.getfield 19, 3) := by decide +kernel
theorem dX4_salt_17 : decode cX4_salt 17 = .ok (.aload_n 0, 1) := by decide +kernel
theorem dX4_salt_18 : decode cX4_salt 18 = .ok (.getfield 10, 3) := by decide +kernel
theorem dX4_salt_21 : decode cX4_salt 21 = .ok (.invokevirtual 46, 3) := by decide +kernel
theorem dX4_salt_24 : decode cX4_salt 24 = .ok (.aload_n 0, 1) := by decide +kernel
theorem dX4_salt_25 : decode cX4_salt 25 = .ok (.getfield 10, 3) := by decide +kernel
theorem dX4_salt_28 : decode cX4_salt 28 = .ok (.getfield 50, 3) := by decide +kernel
theorem dX4_salt_31 : decode cX4_salt 31 = .ok (.istore_n 2, 1) := by decide +kernel
theorem dX4_salt_32 : decode cX4_salt 32 = .ok (.aload_n 0, 1) := by decide +kernel
theorem dX4_salt_33 : decode cX4_salt 33 = .ok (.getfield 10, 3) := by decide +kernel
theorem dX4_salt_36 : decode cX4_salt 36 = .ok (.iload_n 1, 1) := by decide +kernel
theorem dX4_salt_37 : decode cX4_salt 37 = .ok (.invokevirtual 54, 3) := by decide +kernel
theorem dX4_salt_40 : decode cX4_salt 40 = .ok (.iload_n 2, 1) := by decide +kernel
theorem dX4_salt_41 : decode cX4_salt 41 = .ok (.ireturn, 1) := by decide +kernel
set_option maxRecDepth 20000 in
theorem ggX4_bits_X3_sketchAt : GoodIn wsX4_bits wsX3_sketchAt := goodIn_r _ [7, 8, 59, 60] (by decide +kernel) (by decide +kernel)
set_option maxRecDepth 20000 in
theorem gX4_bits_X3_sketchAt : GoodIn wsX4_bits (wsV RX4 58 RX3 yX3_sketchAt wsX3_sketchAt) := goodIn_app (goodIn_of _ (by decide +kernel)) ggX4_bits_X3_sketchAt
set_option maxRecDepth 20000 in
theorem ggX4_bits_X0_record : GoodIn wsX4_bits wsX0_record := goodIn_r _ [13, 14, 15, 16, 17, 18, 19, 20, 21, 22, 23, 6, 24, 25, 8, 26, 27, 28, 29, 30, 31, 32, 33, 34, 35, 36, 37, 38, 39, 61, 62, 63, 59, 60, 54, 55, 56, 57, 58] (by decide +kernel) (by decide +kernel)
set_option maxRecDepth 20000 in
theorem gX4_bits_X0_record : GoodIn wsX4_bits (wsV RX4 46 RX0 yX0_record wsX0_record) := goodIn_app (goodIn_of _ (by decide +kernel)) ggX4_bits_X0_record
set_option maxRecDepth 20000 in
theorem ggX4_bits_X2_startAgain : GoodIn wsX4_bits wsX2_startAgain := goodIn_r _ [43, 31, 32, 38, 39, 44, 45, 46, 47, 54, 55, 56, 57, 58] (by decide +kernel) (by decide +kernel)
set_option maxRecDepth 20000 in
theorem gX4_bits_X2_startAgain : GoodIn wsX4_bits (wsV RX4 65 RX2 yX2_startAgain wsX2_startAgain) := goodIn_app (goodIn_of _ (by decide +kernel)) ggX4_bits_X2_startAgain
theorem dX4_bits_0 : decode cX4_bits 0 = .ok (.aload_n 0, 1) := by decide +kernel
theorem dX4_bits_1 : decode cX4_bits 1 = .ok (.getfield 10, 3) := by decide +kernel
theorem dX4_bits_4 : decode cX4_bits 4 = .ok (.iload_n 1, 1) := by decide +kernel
theorem dX4_bits_5 : decode cX4_bits 5 = .ok (.invokevirtual 58, 3) := by decide +kernel
theorem dX4_bits_8 : decode cX4_bits 8 = .ok (.astore_n 3, 1) := by decide +kernel
theorem dX4_bits_9 : decode cX4_bits 9 = .ok (.aload_n 3, 1) := by decide +kernel
theorem dX4_bits_10 : decode cX4_bits 10 = .ok (.ifnonnull 5, 3) := by decide +kernel
theorem dX4_bits_13 : decode cX4_bits 13 = .ok (.iconst (-1), 1) := by decide +kernel
theorem dX4_bits_14 : decode cX4_bits 14 = .ok (.ireturn, 1) := by decide +kernel
theorem dX4_bits_15 : decode cX4_bits 15 = .ok (.iload_n 2, 1) := by decide +kernel
theorem dX4_bits_16 : decode cX4_bits 16 = .ok (.iconst 2, 1) := by decide +kernel
theorem dX4_bits_17 : decode cX4_bits 17 = .ok (.if_icmp .lt 9, 3) := by decide +kernel
theorem dX4_bits_20 : decode cX4_bits 20 = .ok (.iload_n 2, 1) := by decide +kernel
theorem dX4_bits_21 : decode cX4_bits 21 = .ok (.bipush 6, 2) := by decide +kernel
theorem dX4_bits_23 : decode cX4_bits 23 = .ok (.if_icmp .le 6, 3) := by decide +kernel
theorem dX4_bits_26 : decode cX4_bits 26 = .ok (.bipush (-2), 2) := by decide +kernel
theorem dX4_bits_28 : decode cX4_bits 28 = .ok (.ireturn, 1) := by decide +kernel
theorem dX4_bits_29 : decode cX4_bits 29 = .ok (.aload_n 0, 1) := by decide +kernel
theorem dX4_bits_30 : decode cX4_bits 30 = .ok (.getfield 19, 3) := by decide +kernel
theorem dX4_bits_33 : decode cX4_bits 33 = .ok (.aload_n 0, 1) := by decide +kernel
theorem dX4_bits_34 : decode cX4_bits 34 = .ok (.getfield 10, 3) := by decide +kernel
theorem dX4_bits_37 : decode cX4_bits 37 = .ok (.invokevirtual 46, 3) := by decide +kernel
theorem dX4_bits_40 : decode cX4_bits 40 = .ok (.aload_n 3, 1) := by decide +kernel
theorem dX4_bits_41 : decode cX4_bits 41 = .ok (.getfield 62, 3) := by decide +kernel
theorem dX4_bits_44 : decode cX4_bits 44 = .ok (.istore 4, 2) := by decide +kernel
theorem dX4_bits_46 : decode cX4_bits 46 = .ok (.aload_n 3, 1) := by decide +kernel
theorem dX4_bits_47 : decode cX4_bits 47 = .ok (.iload_n 2, 1) := by decide +kernel
theorem dX4_bits_48 : decode cX4_bits 48 = .ok (.invokevirtual 65, 3) := by decide +kernel
theorem dX4_bits_51 : decode cX4_bits 51 = .ok (.iload 4, 2) := by decide +kernel
theorem dX4_bits_53 : decode cX4_bits 53 = .ok (.ireturn, 1) := by decide +kernel
set_option maxRecDepth 20000 in
theorem ggX4_add_X3_sketchAt : GoodIn wsX4_add wsX3_sketchAt := goodIn_r _ [7, 8, 103, 104] (by decide +kernel) (by decide +kernel)
set_option maxRecDepth 20000 in
theorem gX4_add_X3_sketchAt : GoodIn wsX4_add (wsV RX4 58 RX3 yX3_sketchAt wsX3_sketchAt) := goodIn_app (goodIn_of _ (by decide +kernel)) ggX4_add_X3_sketchAt
set_option maxRecDepth 20000 in
theorem ggX4_add_X4_isThing : GoodIn wsX4_add wsX4_isThing := goodIn_r _ [12, 13] (by decide +kernel) (by decide +kernel)
set_option maxRecDepth 20000 in
theorem gX4_add_X4_isThing : GoodIn wsX4_add (va_wsS RX4 68 yX4_isThing wsX4_isThing) := goodIn_app (goodIn_of _ (by decide +kernel)) ggX4_add_X4_isThing
set_option maxRecDepth 20000 in
theorem ggX4_add_X0_record : GoodIn wsX4_add wsX0_record := goodIn_r _ [18, 19, 20, 21, 22, 23, 24, 25, 26, 27, 28, 6, 29, 30, 8, 31, 32, 33, 34, 35, 36, 37, 38, 39, 40, 41, 42, 43, 44, 105, 106, 107, 103, 104, 108, 109, 110, 111, 112] (by decide +kernel) (by decide +kernel)
set_option maxRecDepth 20000 in
theorem gX4_add_X0_record : GoodIn wsX4_add (wsV RX4 46 RX0 yX0_record wsX0_record) := goodIn_app (goodIn_of _ (by decide +kernel)) ggX4_add_X0_record
set_option maxRecDepth 20000 in
theorem ggX4_add_X4_takeThings : GoodIn wsX4_add wsX4_takeThings := goodIn_r _ [48, 1, 49, 50, 11, 51, 52, 53, 54, 55, 56, 34, 57, 58, 59, 60, 61, 62, 63, 64, 65, 36, 66, 67, 68, 69, 70, 71, 72, 73, 74, 75, 76, 77, 78, 79, 80, 37, 81, 82, 83, 84, 85, 86, 87, 88, 44, 43, 42, 89, 90, 91, 92, 93, 94, 95, 96, 97, 98, 99, 100, 101, 102, 103, 104, 108, 109, 110, 111, 112] (by decide +kernel) (by decide +kernel)
set_option maxRecDepth 20000 in
theorem gX4_add_X4_takeThings : GoodIn wsX4_add (wsV RX4 72 RX4 yX4_takeThings wsX4_takeThings) := goodIn_app (goodIn_of _ (by decide +kernel)) ggX4_add_X4_takeThings
theorem dX4_add_0 : decode cX4_add 0 = .ok (.aload_n 0, 1) := by decide +kernel
theorem dX4_add_1 : decode cX4_add 1 = .ok (.getfield 10, 3) := by decide +kernel
theorem dX4_add_4 : decode cX4_add 4 = .ok (.iload_n 1, 1) := by decide +kernel
theorem dX4_add_5 : decode cX4_add 5 = .ok (.invokevirtual 58, 3) := by decide +kernel
theorem dX4_add_8 : decode cX4_add 8 = .ok (.astore_n 3, 1) := by decide +kernel
theorem dX4_add_9 : decode cX4_add 9 = .ok (.aload_n 3, 1) := by decide +kernel
theorem dX4_add_10 : decode cX4_add 10 = .ok (.ifnonnull 5, 3) := by decide +kernel
theorem dX4_add_13 : decode cX4_add 13 = .ok (.iconst (-1), 1) := by decide +kernel
theorem dX4_add_14 : decode cX4_add 14 = .ok (.ireturn, 1) := by decide +kernel
theorem dX4_add_15 : decode cX4_add 15 = .ok (.iload_n 2, 1) := by decide +kernel
theorem dX4_add_16 : decode cX4_add 16 = .ok (.invokestatic 68, 3) := by decide +kernel
theorem dX4_add_19 : decode cX4_add 19 = .ok (.ifCond .ne 6, 3) := by decide +kernel
theorem dX4_add_22 : decode cX4_add 22 = .ok (.bipush (-2), 2) := by decide +kernel
theorem dX4_add_24 : decode cX4_add 24 = .ok (.ireturn, 1) := by decide +kernel
theorem dX4_add_25 : decode cX4_add 25 = .ok (.aload_n 0, 1) := by decide +kernel
theorem dX4_add_26 : decode cX4_add 26 = .ok (.getfield 19, 3) := by decide +kernel
theorem dX4_add_29 : decode cX4_add 29 = .ok (.aload_n 0, 1) := by decide +kernel
theorem dX4_add_30 : decode cX4_add 30 = .ok (.getfield 10, 3) := by decide +kernel
theorem dX4_add_33 : decode cX4_add 33 = .ok (.invokevirtual 46, 3) := by decide +kernel
theorem dX4_add_36 : decode cX4_add 36 = .ok (.aload_n 0, 1) := by decide +kernel
theorem dX4_add_37 : decode cX4_add 37 = .ok (.aload_n 3, 1) := by decide +kernel
theorem dX4_add_38 : decode cX4_add 38 = .ok (.iload_n 2, 1) := by decide +kernel
theorem dX4_add_39 : decode cX4_add 39 = .ok (.iconst 1, 1) := by decide +kernel
theorem dX4_add_40 : decode cX4_add 40 = .ok (.invokevirtual 72, 3) := by decide +kernel
theorem dX4_add_43 : decode cX4_add 43 = .ok (.ireturn, 1) := by decide +kernel
set_option maxRecDepth 20000 in
theorem ggX4_addRange_X3_sketchAt : GoodIn wsX4_addRange wsX3_sketchAt := goodIn_r _ [7, 8, 106, 107] (by decide +kernel) (by decide +kernel)
set_option maxRecDepth 20000 in
theorem gX4_addRange_X3_sketchAt : GoodIn wsX4_addRange (wsV RX4 58 RX3 yX3_sketchAt wsX3_sketchAt) := goodIn_app (goodIn_of _ (by decide +kernel)) ggX4_addRange_X3_sketchAt
set_option maxRecDepth 20000 in
theorem ggX4_addRange_X4_isRange : GoodIn wsX4_addRange wsX4_isRange := goodIn_r _ [12, 13, 14, 15, 11, 16] (by decide +kernel) (by decide +kernel)
set_option maxRecDepth 20000 in
theorem gX4_addRange_X4_isRange : GoodIn wsX4_addRange (va_wsS RX4 76 yX4_isRange wsX4_isRange) := goodIn_app (goodIn_of _ (by decide +kernel)) ggX4_addRange_X4_isRange
set_option maxRecDepth 20000 in
theorem ggX4_addRange_X0_record : GoodIn wsX4_addRange wsX0_record := goodIn_r _ [21, 22, 23, 24, 25, 26, 27, 28, 29, 30, 31, 6, 32, 33, 8, 34, 35, 36, 37, 38, 39, 40, 41, 42, 43, 44, 45, 46, 47, 108, 109, 110, 106, 107, 111, 112, 113, 114, 115] (by decide +kernel) (by decide +kernel)
set_option maxRecDepth 20000 in
theorem gX4_addRange_X0_record : GoodIn wsX4_addRange (wsV RX4 46 RX0 yX0_record wsX0_record) := goodIn_app (goodIn_of _ (by decide +kernel)) ggX4_addRange_X0_record
set_option maxRecDepth 20000 in
theorem ggX4_addRange_X4_takeThings : GoodIn wsX4_addRange wsX4_takeThings := goodIn_r _ [51, 1, 52, 53, 11, 54, 55, 56, 57, 58, 59, 37, 60, 61, 62, 63, 64, 65, 66, 67, 68, 39, 69, 70, 71, 72, 73, 74, 75, 76, 77, 78, 79, 80, 81, 82, 83, 40, 84, 85, 86, 87, 88, 89, 90, 91, 47, 46, 45, 92, 93, 94, 95, 96, 97, 98, 99, 100, 101, 102, 103, 104, 105, 106, 107, 111, 112, 113, 114, 115] (by decide +kernel) (by decide +kernel)
set_option maxRecDepth 20000 in
theorem gX4_addRange_X4_takeThings : GoodIn wsX4_addRange (wsV RX4 72 RX4 yX4_takeThings wsX4_takeThings) := goodIn_app (goodIn_of _ (by decide +kernel)) ggX4_addRange_X4_takeThings
theorem dX4_addRange_0 : decode cX4_addRange 0 = .ok (.aload_n 0, 1) := by decide +kernel
theorem dX4_addRange_1 : decode cX4_addRange 1 = .ok (.getfield 10, 3) := by decide +kernel
theorem dX4_addRange_4 : decode cX4_addRange 4 = .ok (.iload_n 1, 1) := by decide +kernel
theorem dX4_addRange_5 : decode cX4_addRange 5 = .ok (.invokevirtual 58, 3) := by decide +kernel
theorem dX4_addRange_8 : decode cX4_addRange 8 = .ok (.astore 4, 2) := by decide +kernel
theorem dX4_addRange_10 : decode cX4_addRange 10 = .ok (.aload 4, 2) := by decide +kernel
theorem dX4_addRange_12 : decode cX4_addRange 12 = .ok (.ifnonnull 5, 3) := by decide +kernel
theorem dX4_addRange_15 : decode cX4_addRange 15 = .ok (.iconst (-1), 1) := by decide +kernel
theorem dX4_addRange_16 : decode cX4_addRange 16 = .ok (.ireturn, 1) := by decide +kernel
theorem dX4_addRange_17 : decode cX4_addRange 17 = .ok (.iload_n 2, 1) := by decide +kernel
theorem dX4_addRange_18 : decode cX4_addRange 18 = .ok (.iload_n 3, 1) := by decide +kernel
theorem dX4_addRange_19 : decode cX4_addRange 19 = .ok (.invokestatic 76, 3) := by decide +kernel
theorem dX4_addRange_22 : decode cX4_addRange 22 = .ok (.ifCond .ne 6, 3) := by decide +kernel
theorem dX4_addRange_25 : decode cX4_addRange 25 = .ok (.bipush (-2), 2) := by decide +kernel
theorem dX4_addRange_27 : decode cX4_addRange 27 = .ok (.ireturn, 1) := by decide +kernel
theorem dX4_addRange_28 : decode cX4_addRange 28 = .ok (.aload_n 0, 1) := by decide +kernel
theorem dX4_addRange_29 : decode cX4_addRange 29 = .ok (.getfield 19, 3) := by decide +kernel
theorem dX4_addRange_32 : decode cX4_addRange 32 = .ok (.aload_n 0, 1) := by decide +kernel
theorem dX4_addRange_33 : decode cX4_addRange 33 = .ok (.getfield 10, 3) := by decide +kernel
theorem dX4_addRange_36 : decode cX4_addRange 36 = .ok (.invokevirtual 46, 3) := by decide +kernel
theorem dX4_addRange_39 : decode cX4_addRange 39 = .ok (.aload_n 0, 1) := by decide +kernel
theorem dX4_addRange_40 : decode cX4_addRange 40 = .ok (.aload 4, 2) := by decide +kernel
theorem dX4_addRange_42 : decode cX4_addRange 42 = .ok (.iload_n 2, 1) := by decide +kernel
theorem dX4_addRange_43 : decode cX4_addRange 43 = .ok (.iload_n 3, 1) := by decide +kernel
theorem dX4_addRange_44 : decode cX4_addRange 44 = .ok (.invokevirtual 72, 3) := by decide +kernel
theorem dX4_addRange_47 : decode cX4_addRange 47 = .ok (.ireturn, 1) := by decide +kernel
set_option maxRecDepth 20000 in
theorem ggX4_join_X3_sketchAt : GoodIn wsX4_join wsX3_sketchAt := goodIn_r _ [7, 8, 122, 123] (by decide +kernel) (by decide +kernel)
set_option maxRecDepth 20000 in
theorem gX4_join_X3_sketchAt : GoodIn wsX4_join (wsV RX4 58 RX3 yX3_sketchAt wsX3_sketchAt) := goodIn_app (goodIn_of _ (by decide +kernel)) ggX4_join_X3_sketchAt
set_option maxRecDepth 20000 in
theorem ggX4_join_X4_areToJoin : GoodIn wsX4_join wsX4_areToJoin := goodIn_r _ [12, 124, 125, 126, 127, 128] (by decide +kernel) (by decide +kernel)
set_option maxRecDepth 20000 in
theorem gX4_join_X4_areToJoin : GoodIn wsX4_join (va_wsS RX4 80 yX4_areToJoin wsX4_areToJoin) := goodIn_app (goodIn_of _ (by decide +kernel)) ggX4_join_X4_areToJoin
set_option maxRecDepth 20000 in
theorem ggX4_join_X0_record : GoodIn wsX4_join wsX0_record := goodIn_r _ [17, 18, 19, 20, 21, 22, 23, 24, 25, 26, 27, 6, 28, 29, 8, 30, 31, 32, 33, 34, 35, 36, 37, 38, 39, 40, 41, 42, 43, 129, 130, 131, 122, 123, 124, 125, 126, 127, 128] (by decide +kernel) (by decide +kernel)
set_option maxRecDepth 20000 in
theorem gX4_join_X0_record : GoodIn wsX4_join (wsV RX4 46 RX0 yX0_record wsX0_record) := goodIn_app (goodIn_of _ (by decide +kernel)) ggX4_join_X0_record
set_option maxRecDepth 20000 in
theorem ggX4_join_X2_takeAll : GoodIn wsX4_join wsX2_takeAll := goodIn_r _ [47, 43, 42, 48, 49, 50, 33, 51, 35, 52, 53, 54, 55, 36, 56, 57, 58, 59, 60, 61, 62, 63, 64, 65, 66, 67, 68, 69, 70, 71, 41, 72, 73, 74, 75, 76, 77, 78, 79, 80, 81, 82, 83, 124, 125, 126, 127, 128] (by decide +kernel) (by decide +kernel)
set_option maxRecDepth 20000 in
theorem gX4_join_X2_takeAll : GoodIn wsX4_join (wsV RX4 84 RX2 yX2_takeAll wsX2_takeAll) := goodIn_app (goodIn_of _ (by decide +kernel)) ggX4_join_X2_takeAll
set_option maxRecDepth 20000 in
theorem ggX4_join_X2_estimate : GoodIn wsX4_join wsX2_estimate := goodIn_r _ [87, 88, 89, 90, 33, 91, 92, 93, 94, 95, 96, 97, 98, 99, 48, 49, 50, 51, 35, 52, 53, 54, 55, 36, 56, 57, 58, 59, 100, 101, 102, 103, 104, 105, 106, 107, 108, 109, 110, 111, 112, 113, 114, 115, 124, 125, 126, 127, 128] (by decide +kernel) (by decide +kernel)
set_option maxRecDepth 20000 in
theorem gX4_join_X2_estimate : GoodIn wsX4_join (wsV RX4 88 RX2 yX2_estimate wsX2_estimate) := goodIn_app (goodIn_of _ (by decide +kernel)) ggX4_join_X2_estimate
theorem dX4_join_0 : decode cX4_join 0 = .ok (.aload_n 0, 1) := by decide +kernel
theorem dX4_join_1 : decode cX4_join 1 = .ok (.getfield 10, 3) := by decide +kernel
theorem dX4_join_4 : decode cX4_join 4 = .ok (.iload_n 1, 1) := by decide +kernel
theorem dX4_join_5 : decode cX4_join 5 = .ok (.invokevirtual 58, 3) := by decide +kernel
theorem dX4_join_8 : decode cX4_join 8 = .ok (.astore_n 3, 1) := by decide +kernel
theorem dX4_join_9 : decode cX4_join 9 = .ok (.aload_n 0, 1) := by decide +kernel
theorem dX4_join_10 : decode cX4_join 10 = .ok (.getfield 10, 3) := by decide +kernel
theorem dX4_join_13 : decode cX4_join 13 = .ok (.iload_n 2, 1) := by decide +kernel
theorem dX4_join_14 : decode cX4_join 14 = .ok (.invokevirtual 58, 3) := by decide +kernel
theorem dX4_join_17 : decode cX4_join 17 = .ok (.astore 4, 2) := by decide +kernel
theorem dX4_join_19 : decode cX4_join 19 = .ok (.aload_n 3, 1) := by decide +kernel
theorem dX4_join_20 : decode cX4_join 20 = .ok (.ifnull 8, 3) := by decide +kernel
theorem dX4_join_23 : decode cX4_join 23 = .ok (.aload 4, 2) := by decide +kernel
theorem dX4_join_25 : decode cX4_join 25 = .ok (.ifnonnull 5, 3) := by decide +kernel
theorem dX4_join_28 : decode cX4_join 28 = .ok (.iconst (-1), 1) := by decide +kernel
theorem dX4_join_29 : decode cX4_join 29 = .ok (.ireturn, 1) := by decide +kernel
theorem dX4_join_30 : decode cX4_join 30 = .ok (.aload_n 3, 1) := by decide +kernel
theorem dX4_join_31 : decode cX4_join 31 = .ok (.aload 4, 2) := by decide +kernel
theorem dX4_join_33 : decode cX4_join 33 = .ok (.invokestatic 80, 3) := by decide +kernel
theorem dX4_join_36 : decode cX4_join 36 = .ok (.ifCond .ne 6, 3) := by decide +kernel
theorem dX4_join_39 : decode cX4_join 39 = .ok (.bipush (-5), 2) := by decide +kernel
theorem dX4_join_41 : decode cX4_join 41 = .ok (.ireturn, 1) := by decide +kernel
theorem dX4_join_42 : decode cX4_join 42 = .ok (.aload_n 0, 1) := by decide +kernel
theorem dX4_join_43 : decode cX4_join 43 = .ok (.getfield 19, 3) := by decide +kernel
theorem dX4_join_46 : decode cX4_join 46 = .ok (.aload_n 0, 1) := by decide +kernel
theorem dX4_join_47 : decode cX4_join 47 = .ok (.getfield 10, 3) := by decide +kernel
theorem dX4_join_50 : decode cX4_join 50 = .ok (.invokevirtual 46, 3) := by decide +kernel
theorem dX4_join_53 : decode cX4_join 53 = .ok (.aload_n 3, 1) := by decide +kernel
theorem dX4_join_54 : decode cX4_join 54 = .ok (.aload 4, 2) := by decide +kernel
theorem dX4_join_56 : decode cX4_join 56 = .ok (.invokevirtual 84, 3) := by decide +kernel
theorem dX4_join_59 : decode cX4_join 59 = .ok (.aload_n 3, 1) := by decide +kernel
theorem dX4_join_60 : decode cX4_join 60 = .ok (.invokevirtual 88, 3) := by decide +kernel
theorem dX4_join_63 : decode cX4_join 63 = .ok (.ireturn, 1) := by decide +kernel
set_option maxRecDepth 20000 in
theorem ggX4_fold_X3_sketchAt : GoodIn wsX4_fold wsX3_sketchAt := goodIn_r _ [7, 8, 71, 72] (by decide +kernel) (by decide +kernel)
set_option maxRecDepth 20000 in
theorem gX4_fold_X3_sketchAt : GoodIn wsX4_fold (wsV RX4 58 RX3 yX3_sketchAt wsX3_sketchAt) := goodIn_app (goodIn_of _ (by decide +kernel)) ggX4_fold_X3_sketchAt
set_option maxRecDepth 20000 in
theorem ggX4_fold_X4_isToFold : GoodIn wsX4_fold wsX4_isToFold := goodIn_r _ [12, 73, 74, 75, 76, 77] (by decide +kernel) (by decide +kernel)
set_option maxRecDepth 20000 in
theorem gX4_fold_X4_isToFold : GoodIn wsX4_fold (va_wsS RX4 92 yX4_isToFold wsX4_isToFold) := goodIn_app (goodIn_of _ (by decide +kernel)) ggX4_fold_X4_isToFold
set_option maxRecDepth 20000 in
theorem ggX4_fold_X0_record : GoodIn wsX4_fold wsX0_record := goodIn_r _ [17, 18, 19, 20, 21, 22, 23, 24, 25, 26, 27, 6, 28, 29, 8, 30, 31, 32, 33, 34, 35, 36, 37, 38, 39, 40, 41, 42, 43, 78, 79, 80, 71, 72, 73, 74, 75, 76, 77] (by decide +kernel) (by decide +kernel)
set_option maxRecDepth 20000 in
theorem gX4_fold_X0_record : GoodIn wsX4_fold (wsV RX4 46 RX0 yX0_record wsX0_record) := goodIn_app (goodIn_of _ (by decide +kernel)) ggX4_fold_X0_record
set_option maxRecDepth 20000 in
theorem ggX4_fold_X2_halve : GoodIn wsX4_fold wsX2_halve := goodIn_r _ [47, 36, 48, 49, 50, 51, 35, 52, 53, 54, 33, 55, 56, 57, 58, 59, 60, 61, 62, 63, 73, 74, 75, 76, 77] (by decide +kernel) (by decide +kernel)
set_option maxRecDepth 20000 in
theorem gX4_fold_X2_halve : GoodIn wsX4_fold (wsV RX4 96 RX2 yX2_halve wsX2_halve) := goodIn_app (goodIn_of _ (by decide +kernel)) ggX4_fold_X2_halve
set_option maxRecDepth 20000 in
theorem ggX4_fold_X2_buckets : GoodIn wsX4_fold wsX2_buckets := goodIn_r _ [55, 35, 73, 74, 75, 76, 77] (by decide +kernel) (by decide +kernel)
set_option maxRecDepth 20000 in
theorem gX4_fold_X2_buckets : GoodIn wsX4_fold (wsV RX4 99 RX2 yX2_buckets wsX2_buckets) := goodIn_app (goodIn_of _ (by decide +kernel)) ggX4_fold_X2_buckets
theorem dX4_fold_0 : decode cX4_fold 0 = .ok (.aload_n 0, 1) := by decide +kernel
theorem dX4_fold_1 : decode cX4_fold 1 = .ok (.getfield 10, 3) := by decide +kernel
theorem dX4_fold_4 : decode cX4_fold 4 = .ok (.iload_n 1, 1) := by decide +kernel
theorem dX4_fold_5 : decode cX4_fold 5 = .ok (.invokevirtual 58, 3) := by decide +kernel
theorem dX4_fold_8 : decode cX4_fold 8 = .ok (.astore_n 2, 1) := by decide +kernel
theorem dX4_fold_9 : decode cX4_fold 9 = .ok (.aload_n 2, 1) := by decide +kernel
theorem dX4_fold_10 : decode cX4_fold 10 = .ok (.ifnonnull 5, 3) := by decide +kernel
theorem dX4_fold_13 : decode cX4_fold 13 = .ok (.iconst (-1), 1) := by decide +kernel
theorem dX4_fold_14 : decode cX4_fold 14 = .ok (.ireturn, 1) := by decide +kernel
theorem dX4_fold_15 : decode cX4_fold 15 = .ok (.aload_n 2, 1) := by decide +kernel
theorem dX4_fold_16 : decode cX4_fold 16 = .ok (.invokestatic 92, 3) := by decide +kernel
theorem dX4_fold_19 : decode cX4_fold 19 = .ok (.ifCond .ne 6, 3) := by decide +kernel
theorem dX4_fold_22 : decode cX4_fold 22 = .ok (.bipush (-5), 2) := by decide +kernel
theorem dX4_fold_24 : decode cX4_fold 24 = .ok (.ireturn, 1) := by decide +kernel
theorem dX4_fold_25 : decode cX4_fold 25 = .ok (.aload_n 0, 1) := by decide +kernel
theorem dX4_fold_26 : decode cX4_fold 26 = .ok (.getfield 19, 3) := by decide +kernel
theorem dX4_fold_29 : decode cX4_fold 29 = .ok (.aload_n 0, 1) := by decide +kernel
theorem dX4_fold_30 : decode cX4_fold 30 = .ok (.getfield 10, 3) := by decide +kernel
theorem dX4_fold_33 : decode cX4_fold 33 = .ok (.invokevirtual 46, 3) := by decide +kernel
theorem dX4_fold_36 : decode cX4_fold 36 = .ok (.aload_n 2, 1) := by decide +kernel
theorem dX4_fold_37 : decode cX4_fold 37 = .ok (.invokevirtual 96, 3) := by decide +kernel
theorem dX4_fold_40 : decode cX4_fold 40 = .ok (.aload_n 2, 1) := by decide +kernel
theorem dX4_fold_41 : decode cX4_fold 41 = .ok (.invokevirtual 99, 3) := by decide +kernel
theorem dX4_fold_44 : decode cX4_fold 44 = .ok (.ireturn, 1) := by decide +kernel
set_option maxRecDepth 20000 in
theorem ggX4_empty_X3_sketchAt : GoodIn wsX4_empty wsX3_sketchAt := goodIn_r _ [7, 8, 75, 76] (by decide +kernel) (by decide +kernel)
set_option maxRecDepth 20000 in
theorem gX4_empty_X3_sketchAt : GoodIn wsX4_empty (wsV RX4 58 RX3 yX3_sketchAt wsX3_sketchAt) := goodIn_app (goodIn_of _ (by decide +kernel)) ggX4_empty_X3_sketchAt
set_option maxRecDepth 20000 in
theorem ggX4_empty_X0_record : GoodIn wsX4_empty wsX0_record := goodIn_r _ [13, 14, 15, 16, 17, 18, 19, 20, 21, 22, 23, 6, 24, 25, 8, 26, 27, 28, 29, 30, 31, 32, 33, 34, 35, 36, 37, 38, 39, 77, 78, 79, 75, 76, 70, 71, 72, 73, 74] (by decide +kernel) (by decide +kernel)
set_option maxRecDepth 20000 in
theorem gX4_empty_X0_record : GoodIn wsX4_empty (wsV RX4 46 RX0 yX0_record wsX0_record) := goodIn_app (goodIn_of _ (by decide +kernel)) ggX4_empty_X0_record
set_option maxRecDepth 20000 in
theorem ggX4_empty_X2_filledBuckets : GoodIn wsX4_empty wsX2_filledBuckets := goodIn_r _ [43, 44, 45, 46, 29, 47, 31, 48, 49, 50, 51, 32, 52, 53, 54, 55, 70, 71, 72, 73, 74] (by decide +kernel) (by decide +kernel)
set_option maxRecDepth 20000 in
theorem gX4_empty_X2_filledBuckets : GoodIn wsX4_empty (wsV RX4 102 RX2 yX2_filledBuckets wsX2_filledBuckets) := goodIn_app (goodIn_of _ (by decide +kernel)) ggX4_empty_X2_filledBuckets
set_option maxRecDepth 20000 in
theorem ggX4_empty_X2_startAgain : GoodIn wsX4_empty wsX2_startAgain := goodIn_r _ [59, 31, 32, 38, 39, 60, 61, 62, 63, 70, 71, 72, 73, 74] (by decide +kernel) (by decide +kernel)
set_option maxRecDepth 20000 in
theorem gX4_empty_X2_startAgain : GoodIn wsX4_empty (wsV RX4 65 RX2 yX2_startAgain wsX2_startAgain) := goodIn_app (goodIn_of _ (by decide +kernel)) ggX4_empty_X2_startAgain
theorem dX4_empty_0 : decode cX4_empty 0 = .ok (.aload_n 0, 1) := by decide +kernel
theorem dX4_empty_1 : decode cX4_empty 1 = .ok (.getfield 10, 3) := by decide +kernel
theorem dX4_empty_4 : decode cX4_empty 4 = .ok (.iload_n 1, 1) := by decide +kernel
theorem dX4_empty_5 : decode cX4_empty 5 = .ok (.invokevirtual 58, 3) := by decide +kernel
theorem dX4_empty_8 : decode cX4_empty 8 = .ok (.astore_n 2, 1) := by decide +kernel
theorem dX4_empty_9 : decode cX4_empty 9 = .ok (.aload_n 2, 1) := by decide +kernel
theorem dX4_empty_10 : decode cX4_empty 10 = .ok (.ifnonnull 5, 3) := by decide +kernel
theorem dX4_empty_13 : decode cX4_empty 13 = .ok (.iconst (-1), 1) := by decide +kernel
theorem dX4_empty_14 : decode cX4_empty 14 = .ok (.ireturn, 1) := by decide +kernel
theorem dX4_empty_15 : decode cX4_empty 15 = .ok (.aload_n 0, 1) := by decide +kernel
theorem dX4_empty_16 : decode cX4_empty 16 = .ok (.getfield 19, 3) := by decide +kernel
theorem dX4_empty_19 : decode cX4_empty 19 = .ok (.aload_n 0, 1) := by decide +kernel
theorem dX4_empty_20 : decode cX4_empty 20 = .ok (.getfield 10, 3) := by decide +kernel
theorem dX4_empty_23 : decode cX4_empty 23 = .ok (.invokevirtual 46, 3) := by decide +kernel
theorem dX4_empty_26 : decode cX4_empty 26 = .ok (.aload_n 2, 1) := by decide +kernel
theorem dX4_empty_27 : decode cX4_empty 27 = .ok (.invokevirtual 102, 3) := by decide +kernel
theorem dX4_empty_30 : decode cX4_empty 30 = .ok (.istore_n 3, 1) := by decide +kernel
theorem dX4_empty_31 : decode cX4_empty 31 = .ok (.aload_n 2, 1) := by decide +kernel
theorem dX4_empty_32 : decode cX4_empty 32 = .ok (.aload_n 2, 1) := by decide +kernel
theorem dX4_empty_33 : decode cX4_empty 33 = .ok (.getfield 62, 3) := by decide +kernel
theorem dX4_empty_36 : decode cX4_empty 36 = .ok (.invokevirtual 65, 3) := by decide +kernel
theorem dX4_empty_39 : decode cX4_empty 39 = .ok (.iload_n 3, 1) := by decide +kernel
theorem dX4_empty_40 : decode cX4_empty 40 = .ok (.ireturn, 1) := by decide +kernel
set_option maxRecDepth 20000 in
theorem ggX4_thing_X3_sketchAt : GoodIn wsX4_thing wsX3_sketchAt := goodIn_r _ [6, 7, 60, 61] (by decide +kernel) (by decide +kernel)
set_option maxRecDepth 20000 in
theorem gX4_thing_X3_sketchAt : GoodIn wsX4_thing (wsV RX4 58 RX3 yX3_sketchAt wsX3_sketchAt) := goodIn_app (goodIn_of _ (by decide +kernel)) ggX4_thing_X3_sketchAt
set_option maxRecDepth 20000 in
theorem ggX4_thing_X4_isThing : GoodIn wsX4_thing wsX4_isThing := goodIn_r _ [11, 12] (by decide +kernel) (by decide +kernel)
set_option maxRecDepth 20000 in
theorem gX4_thing_X4_isThing : GoodIn wsX4_thing (va_wsS RX4 68 yX4_isThing wsX4_isThing) := goodIn_app (goodIn_of _ (by decide +kernel)) ggX4_thing_X4_isThing
set_option maxRecDepth 20000 in
theorem ggX4_thing_X4_hashOf : GoodIn wsX4_thing wsX4_hashOf := goodIn_r _ [15, 16, 17] (by decide +kernel) (by decide +kernel)
set_option maxRecDepth 20000 in
theorem gX4_thing_X4_hashOf : GoodIn wsX4_thing (va_wsS RX4 105 yX4_hashOf wsX4_hashOf) := goodIn_app (goodIn_of _ (by decide +kernel)) ggX4_thing_X4_hashOf
set_option maxRecDepth 20000 in
theorem ggX4_thing_X2_bucketOf : GoodIn wsX4_thing wsX2_bucketOf := goodIn_r _ [22, 23, 24, 25, 21, 26, 27, 62, 63, 64, 65, 66] (by decide +kernel) (by decide +kernel)
set_option maxRecDepth 20000 in
theorem gX4_thing_X2_bucketOf : GoodIn wsX4_thing (wsV RX4 109 RX2 yX2_bucketOf wsX2_bucketOf) := goodIn_app (goodIn_of _ (by decide +kernel)) ggX4_thing_X2_bucketOf
set_option maxRecDepth 20000 in
theorem ggX4_thing_X2_rankOf : GoodIn wsX4_thing wsX2_rankOf := goodIn_r _ [31, 27, 32, 33, 34, 35, 36, 37, 38, 62, 63, 64, 65, 66] (by decide +kernel) (by decide +kernel)
set_option maxRecDepth 20000 in
theorem gX4_thing_X2_rankOf : GoodIn wsX4_thing (wsV RX4 113 RX2 yX2_rankOf wsX2_rankOf) := goodIn_app (goodIn_of _ (by decide +kernel)) ggX4_thing_X2_rankOf
set_option maxRecDepth 20000 in
theorem ggX4_thing_X2_wouldChangeBy : GoodIn wsX4_thing wsX2_wouldChangeBy := goodIn_r _ [42, 43, 29, 30, 21, 31, 27, 32, 33, 34, 35, 36, 37, 38, 44, 19, 20, 22, 23, 24, 25, 26, 45, 46, 47, 48, 49, 50, 51, 52, 53, 62, 63, 64, 65, 66] (by decide +kernel) (by decide +kernel)
set_option maxRecDepth 20000 in
theorem gX4_thing_X2_wouldChangeBy : GoodIn wsX4_thing (wsV RX4 116 RX2 yX2_wouldChangeBy wsX2_wouldChangeBy) := goodIn_app (goodIn_of _ (by decide +kernel)) ggX4_thing_X2_wouldChangeBy
theorem dX4_thing_0 : decode cX4_thing 0 = .ok (.aload_n 0, 1) := by decide +kernel
theorem dX4_thing_1 : decode cX4_thing 1 = .ok (.getfield 10, 3) := by decide +kernel
theorem dX4_thing_4 : decode cX4_thing 4 = .ok (.iload_n 1, 1) := by decide +kernel
theorem dX4_thing_5 : decode cX4_thing 5 = .ok (.invokevirtual 58, 3) := by decide +kernel
theorem dX4_thing_8 : decode cX4_thing 8 = .ok (.astore 4, 2) := by decide +kernel
theorem dX4_thing_10 : decode cX4_thing 10 = .ok (.aload 4, 2) := by decide +kernel
theorem dX4_thing_12 : decode cX4_thing 12 = .ok (.ifnonnull 5, 3) := by decide +kernel
theorem dX4_thing_15 : decode cX4_thing 15 = .ok (.iconst (-1), 1) := by decide +kernel
theorem dX4_thing_16 : decode cX4_thing 16 = .ok (.ireturn, 1) := by decide +kernel
theorem dX4_thing_17 : decode cX4_thing 17 = .ok (.iload_n 2, 1) := by decide +kernel
theorem dX4_thing_18 : decode cX4_thing 18 = .ok (.invokestatic 68, 3) := by decide +kernel
theorem dX4_thing_21 : decode cX4_thing 21 = .ok (.ifCond .ne 6, 3) := by decide +kernel
theorem dX4_thing_24 : decode cX4_thing 24 = .ok (.bipush (-2), 2) := by decide +kernel
theorem dX4_thing_26 : decode cX4_thing 26 = .ok (.ireturn, 1) := by decide +kernel
theorem dX4_thing_27 : decode cX4_thing 27 = .ok (.iload_n 2, 1) := by decide +kernel
theorem dX4_thing_28 : decode cX4_thing 28 = .ok (.aload_n 0, 1) := by decide +kernel
theorem dX4_thing_29 : decode cX4_thing 29 = .ok (.getfield 10, 3) := by decide +kernel
theorem dX4_thing_32 : decode cX4_thing 32 = .ok (.getfield 50, 3) := by decide +kernel
theorem dX4_thing_35 : decode cX4_thing 35 = .ok (.invokestatic 105, 3) := by decide +kernel
theorem dX4_thing_38 : decode cX4_thing 38 = .ok (.istore 5, 2) := by decide +kernel
theorem dX4_thing_40 : decode cX4_thing 40 = .ok (.iload_n 3, 1) := by decide +kernel
theorem dX4_thing_41 : decode cX4_thing 41 = .ok (.tableswitch 66 0 3 #[31, 34, 42, 50], 31) := by decide +kernel
theorem dX4_thing_72 : decode cX4_thing 72 = .ok (.iload 5, 2) := by decide +kernel
theorem dX4_thing_74 : decode cX4_thing 74 = .ok (.ireturn, 1) := by decide +kernel
theorem dX4_thing_75 : decode cX4_thing 75 = .ok (.aload 4, 2) := by decide +kernel
theorem dX4_thing_77 : decode cX4_thing 77 = .ok (.iload 5, 2) := by decide +kernel
theorem dX4_thing_79 : decode cX4_thing 79 = .ok (.invokevirtual 109, 3) := by decide +kernel
theorem dX4_thing_82 : decode cX4_thing 82 = .ok (.ireturn, 1) := by decide +kernel
theorem dX4_thing_83 : decode cX4_thing 83 = .ok (.aload 4, 2) := by decide +kernel
theorem dX4_thing_85 : decode cX4_thing 85 = .ok (.iload 5, 2) := by decide +kernel
theorem dX4_thing_87 : decode cX4_thing 87 = .ok (.invokevirtual 113, 3) := by decide +kernel
theorem dX4_thing_90 : decode cX4_thing 90 = .ok (.ireturn, 1) := by decide +kernel
theorem dX4_thing_91 : decode cX4_thing 91 = .ok (.aload 4, 2) := by decide +kernel
theorem dX4_thing_93 : decode cX4_thing 93 = .ok (.iload 5, 2) := by decide +kernel
theorem dX4_thing_95 : decode cX4_thing 95 = .ok (.invokevirtual 116, 3) := by decide +kernel
theorem dX4_thing_98 : decode cX4_thing 98 = .ok (.ifCond .eq 7, 3) := by decide +kernel
theorem dX4_thing_101 : decode cX4_thing 101 = .ok (.iconst 1, 1) := by decide +kernel
theorem dX4_thing_102 : decode cX4_thing 102 = .ok (.goto 4, 3) := by decide +kernel
theorem dX4_thing_105 : decode cX4_thing 105 = .ok (.iconst 0, 1) := by decide +kernel
theorem dX4_thing_106 : decode cX4_thing 106 = .ok (.ireturn, 1) := by decide +kernel
theorem dX4_thing_107 : decode cX4_thing 107 = .ok (.bipush (-2), 2) := by decide +kernel
theorem dX4_thing_109 : decode cX4_thing 109 = .ok (.ireturn, 1) := by decide +kernel
set_option maxRecDepth 20000 in
theorem ggX4_bucket_X3_sketchAt : GoodIn wsX4_bucket wsX3_sketchAt := goodIn_r _ [6, 7, 26, 27] (by decide +kernel) (by decide +kernel)
set_option maxRecDepth 20000 in
theorem gX4_bucket_X3_sketchAt : GoodIn wsX4_bucket (wsV RX4 58 RX3 yX3_sketchAt wsX3_sketchAt) := goodIn_app (goodIn_of _ (by decide +kernel)) ggX4_bucket_X3_sketchAt
set_option maxRecDepth 20000 in
theorem ggX4_bucket_X2_hasBucket : GoodIn wsX4_bucket wsX2_hasBucket := goodIn_r _ [12, 13, 14, 28, 29, 30, 31, 32] (by decide +kernel) (by decide +kernel)
set_option maxRecDepth 20000 in
theorem gX4_bucket_X2_hasBucket : GoodIn wsX4_bucket (wsV RX4 119 RX2 yX2_hasBucket wsX2_hasBucket) := goodIn_app (goodIn_of _ (by decide +kernel)) ggX4_bucket_X2_hasBucket
set_option maxRecDepth 20000 in
theorem ggX4_bucket_X2_rankIn : GoodIn wsX4_bucket wsX2_rankIn := goodIn_r _ [18, 14, 19, 9, 10, 11, 12, 13, 28, 29, 30, 31, 32] (by decide +kernel) (by decide +kernel)
set_option maxRecDepth 20000 in
theorem gX4_bucket_X2_rankIn : GoodIn wsX4_bucket (wsV RX4 122 RX2 yX2_rankIn wsX2_rankIn) := goodIn_app (goodIn_of _ (by decide +kernel)) ggX4_bucket_X2_rankIn
theorem dX4_bucket_0 : decode cX4_bucket 0 = .ok (.aload_n 0, 1) := by decide +kernel
theorem dX4_bucket_1 : decode cX4_bucket 1 = .ok (.getfield 10, 3) := by decide +kernel
theorem dX4_bucket_4 : decode cX4_bucket 4 = .ok (.iload_n 1, 1) := by decide +kernel
theorem dX4_bucket_5 : decode cX4_bucket 5 = .ok (.invokevirtual 58, 3) := by decide +kernel
theorem dX4_bucket_8 : decode cX4_bucket 8 = .ok (.astore_n 3, 1) := by decide +kernel
theorem dX4_bucket_9 : decode cX4_bucket 9 = .ok (.aload_n 3, 1) := by decide +kernel
theorem dX4_bucket_10 : decode cX4_bucket 10 = .ok (.ifnull 11, 3) := by decide +kernel
theorem dX4_bucket_13 : decode cX4_bucket 13 = .ok (.aload_n 3, 1) := by decide +kernel
theorem dX4_bucket_14 : decode cX4_bucket 14 = .ok (.iload_n 2, 1) := by decide +kernel
theorem dX4_bucket_15 : decode cX4_bucket 15 = .ok (.invokevirtual 119, 3) := by decide +kernel
theorem dX4_bucket_18 : decode cX4_bucket 18 = .ok (.ifCond .ne 5, 3) := by decide +kernel
theorem dX4_bucket_21 : decode cX4_bucket 21 = .ok (.iconst (-1), 1) := by decide +kernel
theorem dX4_bucket_22 : decode cX4_bucket 22 = .ok (.ireturn, 1) := by decide +kernel
theorem dX4_bucket_23 : decode cX4_bucket 23 = .ok (.aload_n 3, 1) := by decide +kernel
theorem dX4_bucket_24 : decode cX4_bucket 24 = .ok (.iload_n 2, 1) := by decide +kernel
theorem dX4_bucket_25 : decode cX4_bucket 25 = .ok (.invokevirtual 122, 3) := by decide +kernel
theorem dX4_bucket_28 : decode cX4_bucket 28 = .ok (.ireturn, 1) := by decide +kernel
set_option maxRecDepth 20000 in
theorem ggX4_ofSketch_X3_sketchAt : GoodIn wsX4_ofSketch wsX3_sketchAt := goodIn_r _ [6, 7, 85, 86] (by decide +kernel) (by decide +kernel)
set_option maxRecDepth 20000 in
theorem gX4_ofSketch_X3_sketchAt : GoodIn wsX4_ofSketch (wsV RX4 58 RX3 yX3_sketchAt wsX3_sketchAt) := goodIn_app (goodIn_of _ (by decide +kernel)) ggX4_ofSketch_X3_sketchAt
set_option maxRecDepth 20000 in
theorem ggX4_ofSketch_X2_buckets : GoodIn wsX4_ofSketch wsX2_buckets := goodIn_r _ [12, 13, 80, 81, 82, 83, 84] (by decide +kernel) (by decide +kernel)
set_option maxRecDepth 20000 in
theorem gX4_ofSketch_X2_buckets : GoodIn wsX4_ofSketch (wsV RX4 99 RX2 yX2_buckets wsX2_buckets) := goodIn_app (goodIn_of _ (by decide +kernel)) ggX4_ofSketch_X2_buckets
set_option maxRecDepth 20000 in
theorem ggX4_ofSketch_X2_emptyBuckets : GoodIn wsX4_ofSketch wsX2_emptyBuckets := goodIn_r _ [17, 18, 9, 10, 11, 12, 13, 19, 20, 21, 22, 23, 24, 25, 26, 27, 28, 29, 30, 31, 80, 81, 82, 83, 84] (by decide +kernel) (by decide +kernel)
set_option maxRecDepth 20000 in
theorem gX4_ofSketch_X2_emptyBuckets : GoodIn wsX4_ofSketch (wsV RX4 125 RX2 yX2_emptyBuckets wsX2_emptyBuckets) := goodIn_app (goodIn_of _ (by decide +kernel)) ggX4_ofSketch_X2_emptyBuckets
set_option maxRecDepth 20000 in
theorem ggX4_ofSketch_X2_greatestRank : GoodIn wsX4_ofSketch wsX2_greatestRank := goodIn_r _ [35, 36, 37, 38, 39, 18, 9, 10, 11, 12, 13, 23, 24, 25, 26, 27, 28, 29, 30, 31, 80, 81, 82, 83, 84] (by decide +kernel) (by decide +kernel)
set_option maxRecDepth 20000 in
theorem gX4_ofSketch_X2_greatestRank : GoodIn wsX4_ofSketch (wsV RX4 128 RX2 yX2_greatestRank wsX2_greatestRank) := goodIn_app (goodIn_of _ (by decide +kernel)) ggX4_ofSketch_X2_greatestRank
set_option maxRecDepth 20000 in
theorem ggX4_ofSketch_X2_rankSum : GoodIn wsX4_ofSketch wsX2_rankSum := goodIn_r _ [43, 44, 18, 9, 10, 11, 12, 13, 23, 24, 25, 26, 27, 28, 29, 30, 31, 80, 81, 82, 83, 84] (by decide +kernel) (by decide +kernel)
set_option maxRecDepth 20000 in
theorem gX4_ofSketch_X2_rankSum : GoodIn wsX4_ofSketch (wsV RX4 131 RX2 yX2_rankSum wsX2_rankSum) := goodIn_app (goodIn_of _ (by decide +kernel)) ggX4_ofSketch_X2_rankSum
set_option maxRecDepth 20000 in
theorem ggX4_ofSketch_X2_rawEstimate : GoodIn wsX4_ofSketch wsX2_rawEstimate := goodIn_r _ [48, 49, 50, 51, 52, 41, 42, 11, 43, 44, 18, 9, 10, 12, 13, 23, 24, 25, 26, 27, 28, 29, 30, 31, 80, 81, 82, 83, 84] (by decide +kernel) (by decide +kernel)
set_option maxRecDepth 20000 in
theorem gX4_ofSketch_X2_rawEstimate : GoodIn wsX4_ofSketch (wsV RX4 134 RX2 yX2_rawEstimate wsX2_rawEstimate) := goodIn_app (goodIn_of _ (by decide +kernel)) ggX4_ofSketch_X2_rawEstimate
set_option maxRecDepth 20000 in
theorem ggX4_ofSketch_X2_estimate : GoodIn wsX4_ofSketch wsX2_estimate := goodIn_r _ [56, 57, 46, 47, 11, 48, 49, 50, 51, 52, 41, 42, 43, 44, 18, 9, 10, 12, 13, 23, 24, 25, 26, 27, 28, 29, 30, 31, 58, 15, 16, 17, 19, 20, 21, 22, 59, 60, 61, 62, 36, 37, 38, 39, 80, 81, 82, 83, 84] (by decide +kernel) (by decide +kernel)
set_option maxRecDepth 20000 in
theorem gX4_ofSketch_X2_estimate : GoodIn wsX4_ofSketch (wsV RX4 88 RX2 yX2_estimate wsX2_estimate) := goodIn_app (goodIn_of _ (by decide +kernel)) ggX4_ofSketch_X2_estimate
set_option maxRecDepth 20000 in
theorem ggX4_ofSketch_X2_toldError : GoodIn wsX4_ofSketch wsX2_toldError := goodIn_r _ [66, 67, 68, 69, 70, 71, 11, 72, 18, 9, 10, 12, 13, 73, 54, 55, 56, 57, 46, 47, 48, 49, 50, 51, 52, 41, 42, 43, 44, 23, 24, 25, 26, 27, 28, 29, 30, 31, 58, 15, 16, 17, 19, 20, 21, 22, 59, 60, 61, 62, 36, 37, 38, 39, 80, 81, 82, 83, 84] (by decide +kernel) (by decide +kernel)
set_option maxRecDepth 20000 in
theorem gX4_ofSketch_X2_toldError : GoodIn wsX4_ofSketch (wsV RX4 137 RX2 yX2_toldError wsX2_toldError) := goodIn_app (goodIn_of _ (by decide +kernel)) ggX4_ofSketch_X2_toldError
theorem dX4_ofSketch_0 : decode cX4_ofSketch 0 = .ok (.aload_n 0, 1) := by decide +kernel
theorem dX4_ofSketch_1 : decode cX4_ofSketch 1 = .ok (.getfield 10, 3) := by decide +kernel
theorem dX4_ofSketch_4 : decode cX4_ofSketch 4 = .ok (.iload_n 1, 1) := by decide +kernel
theorem dX4_ofSketch_5 : decode cX4_ofSketch 5 = .ok (.invokevirtual 58, 3) := by decide +kernel
theorem dX4_ofSketch_8 : decode cX4_ofSketch 8 = .ok (.astore_n 3, 1) := by decide +kernel
theorem dX4_ofSketch_9 : decode cX4_ofSketch 9 = .ok (.aload_n 3, 1) := by decide +kernel
theorem dX4_ofSketch_10 : decode cX4_ofSketch 10 = .ok (.ifnonnull 5, 3) := by decide +kernel
theorem dX4_ofSketch_13 : decode cX4_ofSketch 13 = .ok (.iconst (-1), 1) := by decide +kernel
theorem dX4_ofSketch_14 : decode cX4_ofSketch 14 = .ok (.ireturn, 1) := by decide +kernel
theorem dX4_ofSketch_15 : decode cX4_ofSketch 15 = .ok (.iload_n 2, 1) := by decide +kernel
theorem dX4_ofSketch_16 : decode cX4_ofSketch 16 = .ok (.tableswitch 109 0 8 #[52, 57, 62, 67, 72, 77, 82, 87, 92], 52) := by decide +kernel
theorem dX4_ofSketch_68 : decode cX4_ofSketch 68 = .ok (.aload_n 3, 1) := by decide +kernel
theorem dX4_ofSketch_69 : decode cX4_ofSketch 69 = .ok (.getfield 62, 3) := by decide +kernel
theorem dX4_ofSketch_72 : decode cX4_ofSketch 72 = .ok (.ireturn, 1) := by decide +kernel
theorem dX4_ofSketch_73 : decode cX4_ofSketch 73 = .ok (.aload_n 3, 1) := by decide +kernel
theorem dX4_ofSketch_74 : decode cX4_ofSketch 74 = .ok (.invokevirtual 99, 3) := by decide +kernel
theorem dX4_ofSketch_77 : decode cX4_ofSketch 77 = .ok (.ireturn, 1) := by decide +kernel
theorem dX4_ofSketch_78 : decode cX4_ofSketch 78 = .ok (.aload_n 3, 1) := by decide +kernel
theorem dX4_ofSketch_79 : decode cX4_ofSketch 79 = .ok (.invokevirtual 125, 3) := by decide +kernel
theorem dX4_ofSketch_82 : decode cX4_ofSketch 82 = .ok (.ireturn, 1) := by decide +kernel
theorem dX4_ofSketch_83 : decode cX4_ofSketch 83 = .ok (.aload_n 3, 1) := by decide +kernel
theorem dX4_ofSketch_84 : decode cX4_ofSketch 84 = .ok (.invokevirtual 128, 3) := by decide +kernel
theorem dX4_ofSketch_87 : decode cX4_ofSketch 87 = .ok (.ireturn, 1) := by decide +kernel
theorem dX4_ofSketch_88 : decode cX4_ofSketch 88 = .ok (.aload_n 3, 1) := by decide +kernel
theorem dX4_ofSketch_89 : decode cX4_ofSketch 89 = .ok (.invokevirtual 131, 3) := by decide +kernel
theorem dX4_ofSketch_92 : decode cX4_ofSketch 92 = .ok (.ireturn, 1) := by decide +kernel
theorem dX4_ofSketch_93 : decode cX4_ofSketch 93 = .ok (.aload_n 3, 1) := by decide +kernel
theorem dX4_ofSketch_94 : decode cX4_ofSketch 94 = .ok (.invokevirtual 134, 3) := by decide +kernel
theorem dX4_ofSketch_97 : decode cX4_ofSketch 97 = .ok (.ireturn, 1) := by decide +kernel
theorem dX4_ofSketch_98 : decode cX4_ofSketch 98 = .ok (.aload_n 3, 1) := by decide +kernel
theorem dX4_ofSketch_99 : decode cX4_ofSketch 99 = .ok (.invokevirtual 88, 3) := by decide +kernel
theorem dX4_ofSketch_102 : decode cX4_ofSketch 102 = .ok (.ireturn, 1) := by decide +kernel
theorem dX4_ofSketch_103 : decode cX4_ofSketch 103 = .ok (.aload_n 3, 1) := by decide +kernel
theorem dX4_ofSketch_104 : decode cX4_ofSketch 104 = .ok (.invokevirtual 137, 3) := by decide +kernel
theorem dX4_ofSketch_107 : decode cX4_ofSketch 107 = .ok (.ireturn, 1) := by decide +kernel
theorem dX4_ofSketch_108 : decode cX4_ofSketch 108 = .ok (.aload_n 3, 1) := by decide +kernel
theorem dX4_ofSketch_109 : decode cX4_ofSketch 109 = .ok (.getfield 140, 3) := by decide +kernel
theorem dX4_ofSketch_112 : decode cX4_ofSketch 112 = .ok (.ifCond .eq 8, 3) := by decide +kernel
theorem dX4_ofSketch_115 : decode cX4_ofSketch 115 = .ok (.bipush (-6), 2) := by decide +kernel
theorem dX4_ofSketch_117 : decode cX4_ofSketch 117 = .ok (.goto 7, 3) := by decide +kernel
theorem dX4_ofSketch_120 : decode cX4_ofSketch 120 = .ok (.aload_n 3, 1) := by decide +kernel
theorem dX4_ofSketch_121 : decode cX4_ofSketch 121 = .ok (.getfield 144, 3) := by decide +kernel
theorem dX4_ofSketch_124 : decode cX4_ofSketch 124 = .ok (.ireturn, 1) := by decide +kernel
theorem dX4_ofSketch_125 : decode cX4_ofSketch 125 = .ok (.bipush (-2), 2) := by decide +kernel
theorem dX4_ofSketch_127 : decode cX4_ofSketch 127 = .ok (.ireturn, 1) := by decide +kernel
set_option maxRecDepth 20000 in
theorem ggX4_withRank_X3_sketchAt : GoodIn wsX4_withRank wsX3_sketchAt := goodIn_r _ [8, 9, 35, 36] (by decide +kernel) (by decide +kernel)
set_option maxRecDepth 20000 in
theorem gX4_withRank_X3_sketchAt : GoodIn wsX4_withRank (wsV RX4 58 RX3 yX3_sketchAt wsX3_sketchAt) := goodIn_app (goodIn_of _ (by decide +kernel)) ggX4_withRank_X3_sketchAt
set_option maxRecDepth 20000 in
theorem ggX4_withRank_X2_bucketsWithRank : GoodIn wsX4_withRank wsX2_bucketsWithRank := goodIn_r _ [14, 15, 16, 17, 13, 18, 19, 20, 21, 22, 23, 24, 25, 26, 27, 28, 37, 38, 39, 40, 41] (by decide +kernel) (by decide +kernel)
set_option maxRecDepth 20000 in
theorem gX4_withRank_X2_bucketsWithRank : GoodIn wsX4_withRank (wsV RX4 151 RX2 yX2_bucketsWithRank wsX2_bucketsWithRank) := goodIn_app (goodIn_of _ (by decide +kernel)) ggX4_withRank_X2_bucketsWithRank
theorem dX4_withRank_0 : decode cX4_withRank 0 = .ok (.aload_n 0, 1) := by decide +kernel
theorem dX4_withRank_1 : decode cX4_withRank 1 = .ok (.getfield 10, 3) := by decide +kernel
theorem dX4_withRank_4 : decode cX4_withRank 4 = .ok (.iload_n 1, 1) := by decide +kernel
theorem dX4_withRank_5 : decode cX4_withRank 5 = .ok (.invokevirtual 58, 3) := by decide +kernel
theorem dX4_withRank_8 : decode cX4_withRank 8 = .ok (.astore_n 3, 1) := by decide +kernel
theorem dX4_withRank_9 : decode cX4_withRank 9 = .ok (.aload_n 3, 1) := by decide +kernel
theorem dX4_withRank_10 : decode cX4_withRank 10 = .ok (.ifnonnull 7, 3) := by decide +kernel
theorem dX4_withRank_13 : decode cX4_withRank 13 = .ok (.ldc2_w 147, 3) := by decide +kernel
theorem dX4_withRank_16 : decode cX4_withRank 16 = .ok (.lreturn, 1) := by decide +kernel
theorem dX4_withRank_17 : decode cX4_withRank 17 = .ok (.iload_n 2, 1) := by decide +kernel
theorem dX4_withRank_18 : decode cX4_withRank 18 = .ok (.ifCond .lt 9, 3) := by decide +kernel
theorem dX4_withRank_21 : decode cX4_withRank 21 = .ok (.iload_n 2, 1) := by decide +kernel
theorem dX4_withRank_22 : decode cX4_withRank 22 = .ok (.bipush 15, 2) := by decide +kernel
theorem dX4_withRank_24 : decode cX4_withRank 24 = .ok (.if_icmp .le 7, 3) := by decide +kernel
theorem dX4_withRank_27 : decode cX4_withRank 27 = .ok (.ldc2_w 149, 3) := by decide +kernel
theorem dX4_withRank_30 : decode cX4_withRank 30 = .ok (.lreturn, 1) := by decide +kernel
theorem dX4_withRank_31 : decode cX4_withRank 31 = .ok (.aload_n 3, 1) := by decide +kernel
theorem dX4_withRank_32 : decode cX4_withRank 32 = .ok (.iload_n 2, 1) := by decide +kernel
theorem dX4_withRank_33 : decode cX4_withRank 33 = .ok (.invokevirtual 151, 3) := by decide +kernel
theorem dX4_withRank_36 : decode cX4_withRank 36 = .ok (.lreturn, 1) := by decide +kernel
set_option maxRecDepth 20000 in
theorem ggX4_listed_X3_sketchAt : GoodIn wsX4_listed wsX3_sketchAt := goodIn_r _ [6, 7, 26, 27] (by decide +kernel) (by decide +kernel)
set_option maxRecDepth 20000 in
theorem gX4_listed_X3_sketchAt : GoodIn wsX4_listed (wsV RX4 58 RX3 yX3_sketchAt wsX3_sketchAt) := goodIn_app (goodIn_of _ (by decide +kernel)) ggX4_listed_X3_sketchAt
set_option maxRecDepth 20000 in
theorem ggX4_listed_X2_hasPlace : GoodIn wsX4_listed wsX2_hasPlace := goodIn_r _ [12, 13, 14, 28, 29, 30, 31, 32] (by decide +kernel) (by decide +kernel)
set_option maxRecDepth 20000 in
theorem gX4_listed_X2_hasPlace : GoodIn wsX4_listed (wsV RX4 155 RX2 yX2_hasPlace wsX2_hasPlace) := goodIn_app (goodIn_of _ (by decide +kernel)) ggX4_listed_X2_hasPlace
set_option maxRecDepth 20000 in
theorem ggX4_listed_X2_thingAt : GoodIn wsX4_listed wsX2_thingAt := goodIn_r _ [18, 14, 19, 9, 10, 11, 12, 13, 28, 29, 30, 31, 32] (by decide +kernel) (by decide +kernel)
set_option maxRecDepth 20000 in
theorem gX4_listed_X2_thingAt : GoodIn wsX4_listed (wsV RX4 158 RX2 yX2_thingAt wsX2_thingAt) := goodIn_app (goodIn_of _ (by decide +kernel)) ggX4_listed_X2_thingAt
theorem dX4_listed_0 : decode cX4_listed 0 = .ok (.aload_n 0, 1) := by decide +kernel
theorem dX4_listed_1 : decode cX4_listed 1 = .ok (.getfield 10, 3) := by decide +kernel
theorem dX4_listed_4 : decode cX4_listed 4 = .ok (.iload_n 1, 1) := by decide +kernel
theorem dX4_listed_5 : decode cX4_listed 5 = .ok (.invokevirtual 58, 3) := by decide +kernel
theorem dX4_listed_8 : decode cX4_listed 8 = .ok (.astore_n 3, 1) := by decide +kernel
theorem dX4_listed_9 : decode cX4_listed 9 = .ok (.aload_n 3, 1) := by decide +kernel
theorem dX4_listed_10 : decode cX4_listed 10 = .ok (.ifnull 11, 3) := by decide +kernel
theorem dX4_listed_13 : decode cX4_listed 13 = .ok (.aload_n 3, 1) := by decide +kernel
theorem dX4_listed_14 : decode cX4_listed 14 = .ok (.iload_n 2, 1) := by decide +kernel
theorem dX4_listed_15 : decode cX4_listed 15 = .ok (.invokevirtual 155, 3) := by decide +kernel
theorem dX4_listed_18 : decode cX4_listed 18 = .ok (.ifCond .ne 5, 3) := by decide +kernel
theorem dX4_listed_21 : decode cX4_listed 21 = .ok (.iconst (-1), 1) := by decide +kernel
theorem dX4_listed_22 : decode cX4_listed 22 = .ok (.ireturn, 1) := by decide +kernel
theorem dX4_listed_23 : decode cX4_listed 23 = .ok (.aload_n 3, 1) := by decide +kernel
theorem dX4_listed_24 : decode cX4_listed 24 = .ok (.iload_n 2, 1) := by decide +kernel
theorem dX4_listed_25 : decode cX4_listed 25 = .ok (.invokevirtual 158, 3) := by decide +kernel
theorem dX4_listed_28 : decode cX4_listed 28 = .ok (.ireturn, 1) := by decide +kernel
set_option maxRecDepth 20000 in
theorem ggX4_count_X3_filledSketches : GoodIn wsX4_count wsX3_filledSketches := goodIn_r _ [8, 9, 10, 11, 12, 13, 14, 15, 16, 17, 18, 19, 20, 21, 22, 23, 24, 25, 26, 27, 28, 43, 44, 55, 56, 57, 58, 59] (by decide +kernel) (by decide +kernel)
set_option maxRecDepth 20000 in
theorem gX4_count_X3_filledSketches : GoodIn wsX4_count (wsV RX4 161 RX3 yX3_filledSketches wsX3_filledSketches) := goodIn_app (goodIn_of _ (by decide +kernel)) ggX4_count_X3_filledSketches
set_option maxRecDepth 20000 in
theorem ggX4_count_X3_filledBuckets : GoodIn wsX4_count wsX3_filledBuckets := goodIn_r _ [32, 9, 10, 11, 12, 13, 14, 15, 16, 17, 18, 19, 20, 21, 22, 23, 24, 25, 26, 27, 28, 43, 44, 55, 56, 57, 58, 59] (by decide +kernel) (by decide +kernel)
set_option maxRecDepth 20000 in
theorem gX4_count_X3_filledBuckets : GoodIn wsX4_count (wsV RX4 164 RX3 yX3_filledBuckets wsX3_filledBuckets) := goodIn_app (goodIn_of _ (by decide +kernel)) ggX4_count_X3_filledBuckets
set_option maxRecDepth 20000 in
theorem ggX4_count_X3_fullLists : GoodIn wsX4_count wsX3_fullLists := goodIn_r _ [36, 9, 43, 44, 55, 56, 57, 58, 59] (by decide +kernel) (by decide +kernel)
set_option maxRecDepth 20000 in
theorem gX4_count_X3_fullLists : GoodIn wsX4_count (wsV RX4 165 RX3 yX3_fullLists wsX3_fullLists) := goodIn_app (goodIn_of _ (by decide +kernel)) ggX4_count_X3_fullLists
theorem dX4_count_0 : decode cX4_count 0 = .ok (.iload_n 1, 1) := by decide +kernel
theorem dX4_count_1 : decode cX4_count 1 = .ok (.tableswitch 87 0 5 #[39, 47, 55, 63, 71, 79], 39) := by decide +kernel
theorem dX4_count_40 : decode cX4_count 40 = .ok (.aload_n 0, 1) := by decide +kernel
theorem dX4_count_41 : decode cX4_count 41 = .ok (.getfield 10, 3) := by decide +kernel
theorem dX4_count_44 : decode cX4_count 44 = .ok (.getfield 50, 3) := by decide +kernel
theorem dX4_count_47 : decode cX4_count 47 = .ok (.ireturn, 1) := by decide +kernel
theorem dX4_count_48 : decode cX4_count 48 = .ok (.aload_n 0, 1) := by decide +kernel
theorem dX4_count_49 : decode cX4_count 49 = .ok (.getfield 10, 3) := by decide +kernel
theorem dX4_count_52 : decode cX4_count 52 = .ok (.invokevirtual 161, 3) := by decide +kernel
theorem dX4_count_55 : decode cX4_count 55 = .ok (.ireturn, 1) := by decide +kernel
theorem dX4_count_56 : decode cX4_count 56 = .ok (.aload_n 0, 1) := by decide +kernel
theorem dX4_count_57 : decode cX4_count 57 = .ok (.getfield 10, 3) := by decide +kernel
theorem dX4_count_60 : decode cX4_count 60 = .ok (.invokevirtual 164, 3) := by decide +kernel
theorem dX4_count_63 : decode cX4_count 63 = .ok (.ireturn, 1) := by decide +kernel
theorem dX4_count_64 : decode cX4_count 64 = .ok (.aload_n 0, 1) := by decide +kernel
theorem dX4_count_65 : decode cX4_count 65 = .ok (.getfield 10, 3) := by decide +kernel
theorem dX4_count_68 : decode cX4_count 68 = .ok (.invokevirtual 165, 3) := by decide +kernel
theorem dX4_count_71 : decode cX4_count 71 = .ok (.ireturn, 1) := by decide +kernel
theorem dX4_count_72 : decode cX4_count 72 = .ok (.aload_n 0, 1) := by decide +kernel
theorem dX4_count_73 : decode cX4_count 73 = .ok (.getfield 34, 3) := by decide +kernel
theorem dX4_count_76 : decode cX4_count 76 = .ok (.getfield 168, 3) := by decide +kernel
theorem dX4_count_79 : decode cX4_count 79 = .ok (.ireturn, 1) := by decide +kernel
theorem dX4_count_80 : decode cX4_count 80 = .ok (.aload_n 0, 1) := by decide +kernel
theorem dX4_count_81 : decode cX4_count 81 = .ok (.getfield 19, 3) := by decide +kernel
theorem dX4_count_84 : decode cX4_count 84 = .ok (.getfield 171, 3) := by decide +kernel
theorem dX4_count_87 : decode cX4_count 87 = .ok (.ireturn, 1) := by decide +kernel
theorem dX4_count_88 : decode cX4_count 88 = .ok (.bipush (-2), 2) := by decide +kernel
theorem dX4_count_90 : decode cX4_count 90 = .ok (.ireturn, 1) := by decide +kernel
set_option maxRecDepth 20000 in
theorem ggX4_together_X3_sketchAt : GoodIn wsX4_together wsX3_sketchAt := goodIn_r _ [7, 8, 106, 107] (by decide +kernel) (by decide +kernel)
set_option maxRecDepth 20000 in
theorem gX4_together_X3_sketchAt : GoodIn wsX4_together (wsV RX4 58 RX3 yX3_sketchAt wsX3_sketchAt) := goodIn_app (goodIn_of _ (by decide +kernel)) ggX4_together_X3_sketchAt
set_option maxRecDepth 20000 in
theorem ggX4_together_X2_copyFrom : GoodIn wsX4_together wsX2_copyFrom := goodIn_r _ [13, 14, 15, 16, 17, 18, 19, 20, 21, 22, 101, 102, 103, 104, 105] (by decide +kernel) (by decide +kernel)
set_option maxRecDepth 20000 in
theorem gX4_together_X2_copyFrom : GoodIn wsX4_together (wsV RX4 174 RX2 yX2_copyFrom wsX2_copyFrom) := goodIn_app (goodIn_of _ (by decide +kernel)) ggX4_together_X2_copyFrom
set_option maxRecDepth 20000 in
theorem ggX4_together_X2_takeAll : GoodIn wsX4_together wsX2_takeAll := goodIn_r _ [26, 22, 21, 27, 28, 29, 12, 30, 14, 31, 32, 33, 34, 15, 35, 36, 37, 38, 39, 40, 41, 42, 43, 44, 45, 46, 47, 48, 49, 50, 20, 51, 52, 53, 54, 55, 56, 57, 58, 59, 60, 61, 62, 101, 102, 103, 104, 105] (by decide +kernel) (by decide +kernel)
set_option maxRecDepth 20000 in
theorem gX4_together_X2_takeAll : GoodIn wsX4_together (wsV RX4 84 RX2 yX2_takeAll wsX2_takeAll) := goodIn_app (goodIn_of _ (by decide +kernel)) ggX4_together_X2_takeAll
set_option maxRecDepth 20000 in
theorem ggX4_together_X2_estimate : GoodIn wsX4_together wsX2_estimate := goodIn_r _ [66, 67, 68, 69, 12, 70, 71, 72, 73, 74, 75, 76, 77, 78, 27, 28, 29, 30, 14, 31, 32, 33, 34, 15, 35, 36, 37, 38, 79, 80, 81, 82, 83, 84, 85, 86, 87, 88, 89, 90, 91, 92, 93, 94, 101, 102, 103, 104, 105] (by decide +kernel) (by decide +kernel)
set_option maxRecDepth 20000 in
theorem gX4_together_X2_estimate : GoodIn wsX4_together (wsV RX4 88 RX2 yX2_estimate wsX2_estimate) := goodIn_app (goodIn_of _ (by decide +kernel)) ggX4_together_X2_estimate
theorem dX4_together_0 : decode cX4_together 0 = .ok (.aload_n 0, 1) := by decide +kernel
theorem dX4_together_1 : decode cX4_together 1 = .ok (.getfield 10, 3) := by decide +kernel
theorem dX4_together_4 : decode cX4_together 4 = .ok (.iload_n 1, 1) := by decide +kernel
theorem dX4_together_5 : decode cX4_together 5 = .ok (.invokevirtual 58, 3) := by decide +kernel
theorem dX4_together_8 : decode cX4_together 8 = .ok (.astore_n 3, 1) := by decide +kernel
theorem dX4_together_9 : decode cX4_together 9 = .ok (.aload_n 0, 1) := by decide +kernel
theorem dX4_together_10 : decode cX4_together 10 = .ok (.getfield 10, 3) := by decide +kernel
theorem dX4_together_13 : decode cX4_together 13 = .ok (.iload_n 2, 1) := by decide +kernel
theorem dX4_together_14 : decode cX4_together 14 = .ok (.invokevirtual 58, 3) := by decide +kernel
theorem dX4_together_17 : decode cX4_together 17 = .ok (.astore 4, 2) := by decide +kernel
theorem dX4_together_19 : decode cX4_together 19 = .ok (.aload_n 3, 1) := by decide +kernel
theorem dX4_together_20 : decode cX4_together 20 = .ok (.ifnull 8, 3) := by decide +kernel
theorem dX4_together_23 : decode cX4_together 23 = .ok (.aload 4, 2) := by decide +kernel
theorem dX4_together_25 : decode cX4_together 25 = .ok (.ifnonnull 5, 3) := by decide +kernel
theorem dX4_together_28 : decode cX4_together 28 = .ok (.iconst (-1), 1) := by decide +kernel
theorem dX4_together_29 : decode cX4_together 29 = .ok (.ireturn, 1) := by decide +kernel
theorem dX4_together_30 : decode cX4_together 30 = .ok (.aload_n 3, 1) := by decide +kernel
theorem dX4_together_31 : decode cX4_together 31 = .ok (.getfield 62, 3) := by decide +kernel
theorem dX4_together_34 : decode cX4_together 34 = .ok (.aload 4, 2) := by decide +kernel
theorem dX4_together_36 : decode cX4_together 36 = .ok (.getfield 62, 3) := by decide +kernel
theorem dX4_together_39 : decode cX4_together 39 = .ok (.if_icmp .eq 6, 3) := by decide +kernel
theorem dX4_together_42 : decode cX4_together 42 = .ok (.bipush (-5), 2) := by decide +kernel
theorem dX4_together_44 : decode cX4_together 44 = .ok (.ireturn, 1) := by decide +kernel
theorem dX4_together_45 : decode cX4_together 45 = .ok (.aload_n 0, 1) := by decide +kernel
theorem dX4_together_46 : decode cX4_together 46 = .ok (.getfield 41, 3) := by decide +kernel
theorem dX4_together_49 : decode cX4_together 49 = .ok (.aload_n 3, 1) := by decide +kernel
theorem dX4_together_50 : decode cX4_together 50 = .ok (.invokevirtual 174, 3) := by decide +kernel
theorem dX4_together_53 : decode cX4_together 53 = .ok (.aload_n 0, 1) := by decide +kernel
theorem dX4_together_54 : decode cX4_together 54 = .ok (.getfield 41, 3) := by decide +kernel
theorem dX4_together_57 : decode cX4_together 57 = .ok (.aload 4, 2) := by decide +kernel
theorem dX4_together_59 : decode cX4_together 59 = .ok (.invokevirtual 84, 3) := by decide +kernel
theorem dX4_together_62 : decode cX4_together 62 = .ok (.aload_n 0, 1) := by decide +kernel
theorem dX4_together_63 : decode cX4_together 63 = .ok (.getfield 41, 3) := by decide +kernel
theorem dX4_together_66 : decode cX4_together 66 = .ok (.invokevirtual 88, 3) := by decide +kernel
theorem dX4_together_69 : decode cX4_together 69 = .ok (.ireturn, 1) := by decide +kernel
set_option maxRecDepth 20000 in
theorem ggX4_alike_X3_sketchAt : GoodIn wsX4_alike wsX3_sketchAt := goodIn_r _ [6, 7, 43, 44] (by decide +kernel) (by decide +kernel)
set_option maxRecDepth 20000 in
theorem gX4_alike_X3_sketchAt : GoodIn wsX4_alike (wsV RX4 58 RX3 yX3_sketchAt wsX3_sketchAt) := goodIn_app (goodIn_of _ (by decide +kernel)) ggX4_alike_X3_sketchAt
set_option maxRecDepth 20000 in
theorem ggX4_alike_X2_sameBuckets : GoodIn wsX4_alike wsX2_sameBuckets := goodIn_r _ [12, 13, 14, 15, 11, 16, 17, 18, 19, 20, 21, 22, 23, 24, 25, 26, 38, 39, 40, 41, 42] (by decide +kernel) (by decide +kernel)
set_option maxRecDepth 20000 in
theorem gX4_alike_X2_sameBuckets : GoodIn wsX4_alike (wsV RX4 177 RX2 yX2_sameBuckets wsX2_sameBuckets) := goodIn_app (goodIn_of _ (by decide +kernel)) ggX4_alike_X2_sameBuckets
set_option maxRecDepth 20000 in
theorem ggX4_alike_X4_bitsOfShare : GoodIn wsX4_alike wsX4_bitsOfShare := goodIn_r _ [30, 31] (by decide +kernel) (by decide +kernel)
set_option maxRecDepth 20000 in
theorem gX4_alike_X4_bitsOfShare : GoodIn wsX4_alike (va_wsS RX4 181 yX4_bitsOfShare wsX4_bitsOfShare) := goodIn_app (goodIn_of _ (by decide +kernel)) ggX4_alike_X4_bitsOfShare
theorem dX4_alike_0 : decode cX4_alike 0 = .ok (.aload_n 0, 1) := by decide +kernel
theorem dX4_alike_1 : decode cX4_alike 1 = .ok (.getfield 10, 3) := by decide +kernel
theorem dX4_alike_4 : decode cX4_alike 4 = .ok (.iload_n 1, 1) := by decide +kernel
theorem dX4_alike_5 : decode cX4_alike 5 = .ok (.invokevirtual 58, 3) := by decide +kernel
theorem dX4_alike_8 : decode cX4_alike 8 = .ok (.astore_n 3, 1) := by decide +kernel
theorem dX4_alike_9 : decode cX4_alike 9 = .ok (.aload_n 0, 1) := by decide +kernel
theorem dX4_alike_10 : decode cX4_alike 10 = .ok (.getfield 10, 3) := by decide +kernel
theorem dX4_alike_13 : decode cX4_alike 13 = .ok (.iload_n 2, 1) := by decide +kernel
theorem dX4_alike_14 : decode cX4_alike 14 = .ok (.invokevirtual 58, 3) := by decide +kernel
theorem dX4_alike_17 : decode cX4_alike 17 = .ok (.astore 4, 2) := by decide +kernel
theorem dX4_alike_19 : decode cX4_alike 19 = .ok (.aload_n 3, 1) := by decide +kernel
theorem dX4_alike_20 : decode cX4_alike 20 = .ok (.ifnull 8, 3) := by decide +kernel
theorem dX4_alike_23 : decode cX4_alike 23 = .ok (.aload 4, 2) := by decide +kernel
theorem dX4_alike_25 : decode cX4_alike 25 = .ok (.ifnonnull 5, 3) := by decide +kernel
theorem dX4_alike_28 : decode cX4_alike 28 = .ok (.iconst (-1), 1) := by decide +kernel
theorem dX4_alike_29 : decode cX4_alike 29 = .ok (.ireturn, 1) := by decide +kernel
theorem dX4_alike_30 : decode cX4_alike 30 = .ok (.aload_n 3, 1) := by decide +kernel
theorem dX4_alike_31 : decode cX4_alike 31 = .ok (.getfield 62, 3) := by decide +kernel
theorem dX4_alike_34 : decode cX4_alike 34 = .ok (.aload 4, 2) := by decide +kernel
theorem dX4_alike_36 : decode cX4_alike 36 = .ok (.getfield 62, 3) := by decide +kernel
theorem dX4_alike_39 : decode cX4_alike 39 = .ok (.if_icmp .eq 6, 3) := by decide +kernel
theorem dX4_alike_42 : decode cX4_alike 42 = .ok (.bipush (-5), 2) := by decide +kernel
theorem dX4_alike_44 : decode cX4_alike 44 = .ok (.ireturn, 1) := by decide +kernel
theorem dX4_alike_45 : decode cX4_alike 45 = .ok (.aload_n 3, 1) := by decide +kernel
theorem dX4_alike_46 : decode cX4_alike 46 = .ok (.aload 4, 2) := by decide +kernel
theorem dX4_alike_48 : decode cX4_alike 48 = .ok (.invokevirtual 177, 3) := by decide +kernel
theorem dX4_alike_51 : decode cX4_alike 51 = .ok (.aload_n 3, 1) := by decide +kernel
theorem dX4_alike_52 : decode cX4_alike 52 = .ok (.getfield 62, 3) := by decide +kernel
theorem dX4_alike_55 : decode cX4_alike 55 = .ok (.invokestatic 181, 3) := by decide +kernel
theorem dX4_alike_58 : decode cX4_alike 58 = .ok (.ireturn, 1) := by decide +kernel
set_option maxRecDepth 20000 in
theorem ggX4_off_X3_sketchAt : GoodIn wsX4_off wsX3_sketchAt := goodIn_r _ [7, 8, 67, 68] (by decide +kernel) (by decide +kernel)
set_option maxRecDepth 20000 in
theorem gX4_off_X3_sketchAt : GoodIn wsX4_off (wsV RX4 58 RX3 yX3_sketchAt wsX3_sketchAt) := goodIn_app (goodIn_of _ (by decide +kernel)) ggX4_off_X3_sketchAt
set_option maxRecDepth 20000 in
theorem ggX4_off_X2_estimate : GoodIn wsX4_off wsX2_estimate := goodIn_r _ [13, 14, 15, 16, 12, 17, 18, 19, 20, 21, 22, 23, 24, 25, 26, 27, 28, 29, 30, 31, 32, 33, 34, 35, 36, 37, 38, 39, 40, 41, 42, 43, 44, 45, 46, 47, 48, 49, 50, 51, 52, 53, 54, 55, 62, 63, 64, 65, 66] (by decide +kernel) (by decide +kernel)
set_option maxRecDepth 20000 in
theorem gX4_off_X2_estimate : GoodIn wsX4_off (wsV RX4 88 RX2 yX2_estimate wsX2_estimate) := goodIn_app (goodIn_of _ (by decide +kernel)) ggX4_off_X2_estimate
theorem dX4_off_0 : decode cX4_off 0 = .ok (.aload_n 0, 1) := by decide +kernel
theorem dX4_off_1 : decode cX4_off 1 = .ok (.getfield 10, 3) := by decide +kernel
theorem dX4_off_4 : decode cX4_off 4 = .ok (.iload_n 1, 1) := by decide +kernel
theorem dX4_off_5 : decode cX4_off 5 = .ok (.invokevirtual 58, 3) := by decide +kernel
theorem dX4_off_8 : decode cX4_off 8 = .ok (.astore_n 2, 1) := by decide +kernel
theorem dX4_off_9 : decode cX4_off 9 = .ok (.aload_n 2, 1) := by decide +kernel
theorem dX4_off_10 : decode cX4_off 10 = .ok (.ifnonnull 5, 3) := by decide +kernel
theorem dX4_off_13 : decode cX4_off 13 = .ok (.iconst (-1), 1) := by decide +kernel
theorem dX4_off_14 : decode cX4_off 14 = .ok (.ireturn, 1) := by decide +kernel
theorem dX4_off_15 : decode cX4_off 15 = .ok (.aload_n 2, 1) := by decide +kernel
theorem dX4_off_16 : decode cX4_off 16 = .ok (.getfield 140, 3) := by decide +kernel
theorem dX4_off_19 : decode cX4_off 19 = .ok (.ifCond .eq 6, 3) := by decide +kernel
theorem dX4_off_22 : decode cX4_off 22 = .ok (.bipush (-5), 2) := by decide +kernel
theorem dX4_off_24 : decode cX4_off 24 = .ok (.ireturn, 1) := by decide +kernel
theorem dX4_off_25 : decode cX4_off 25 = .ok (.aload_n 2, 1) := by decide +kernel
theorem dX4_off_26 : decode cX4_off 26 = .ok (.invokevirtual 88, 3) := by decide +kernel
theorem dX4_off_29 : decode cX4_off 29 = .ok (.aload_n 2, 1) := by decide +kernel
theorem dX4_off_30 : decode cX4_off 30 = .ok (.getfield 144, 3) := by decide +kernel
theorem dX4_off_33 : decode cX4_off 33 = .ok (.isub, 1) := by decide +kernel
theorem dX4_off_34 : decode cX4_off 34 = .ok (.ldc 184, 2) := by decide +kernel
theorem dX4_off_36 : decode cX4_off 36 = .ok (.iadd, 1) := by decide +kernel
theorem dX4_off_37 : decode cX4_off 37 = .ok (.ireturn, 1) := by decide +kernel
set_option maxRecDepth 20000 in
theorem ggX4_nextNew_X3_sketchAt : GoodIn wsX4_nextNew wsX3_sketchAt := goodIn_r _ [7, 8, 58, 59] (by decide +kernel) (by decide +kernel)
set_option maxRecDepth 20000 in
theorem gX4_nextNew_X3_sketchAt : GoodIn wsX4_nextNew (wsV RX4 58 RX3 yX3_sketchAt wsX3_sketchAt) := goodIn_app (goodIn_of _ (by decide +kernel)) ggX4_nextNew_X3_sketchAt
set_option maxRecDepth 20000 in
theorem ggX4_nextNew_X4_isThing : GoodIn wsX4_nextNew wsX4_isThing := goodIn_r _ [12, 2] (by decide +kernel) (by decide +kernel)
set_option maxRecDepth 20000 in
theorem gX4_nextNew_X4_isThing : GoodIn wsX4_nextNew (va_wsS RX4 68 yX4_isThing wsX4_isThing) := goodIn_app (goodIn_of _ (by decide +kernel)) ggX4_nextNew_X4_isThing
set_option maxRecDepth 20000 in
theorem ggX4_nextNew_X4_hashOf : GoodIn wsX4_nextNew wsX4_hashOf := goodIn_r _ [15, 16, 17] (by decide +kernel) (by decide +kernel)
set_option maxRecDepth 20000 in
theorem gX4_nextNew_X4_hashOf : GoodIn wsX4_nextNew (va_wsS RX4 105 yX4_hashOf wsX4_hashOf) := goodIn_app (goodIn_of _ (by decide +kernel)) ggX4_nextNew_X4_hashOf
set_option maxRecDepth 20000 in
theorem ggX4_nextNew_X2_wouldChangeBy : GoodIn wsX4_nextNew wsX2_wouldChangeBy := goodIn_r _ [22, 23, 24, 25, 21, 26, 27, 28, 29, 30, 31, 32, 33, 34, 35, 36, 37, 38, 39, 40, 41, 42, 43, 44, 45, 46, 47, 48, 49, 50, 51, 60, 61, 62, 63, 64] (by decide +kernel) (by decide +kernel)
set_option maxRecDepth 20000 in
theorem gX4_nextNew_X2_wouldChangeBy : GoodIn wsX4_nextNew (wsV RX4 116 RX2 yX2_wouldChangeBy wsX2_wouldChangeBy) := goodIn_app (goodIn_of _ (by decide +kernel)) ggX4_nextNew_X2_wouldChangeBy
theorem dX4_nextNew_0 : decode cX4_nextNew 0 = .ok (.aload_n 0, 1) := by decide +kernel
theorem dX4_nextNew_1 : decode cX4_nextNew 1 = .ok (.getfield 10, 3) := by decide +kernel
theorem dX4_nextNew_4 : decode cX4_nextNew 4 = .ok (.iload_n 1, 1) := by decide +kernel
theorem dX4_nextNew_5 : decode cX4_nextNew 5 = .ok (.invokevirtual 58, 3) := by decide +kernel
theorem dX4_nextNew_8 : decode cX4_nextNew 8 = .ok (.astore_n 3, 1) := by decide +kernel
theorem dX4_nextNew_9 : decode cX4_nextNew 9 = .ok (.aload_n 3, 1) := by decide +kernel
theorem dX4_nextNew_10 : decode cX4_nextNew 10 = .ok (.ifnonnull 5, 3) := by decide +kernel
theorem dX4_nextNew_13 : decode cX4_nextNew 13 = .ok (.iconst (-1), 1) := by decide +kernel
theorem dX4_nextNew_14 : decode cX4_nextNew 14 = .ok (.ireturn, 1) := by decide +kernel
theorem dX4_nextNew_15 : decode cX4_nextNew 15 = .ok (.iload_n 2, 1) := by decide +kernel
theorem dX4_nextNew_16 : decode cX4_nextNew 16 = .ok (.invokestatic 68, 3) := by decide +kernel
theorem dX4_nextNew_19 : decode cX4_nextNew 19 = .ok (.ifCond .ne 6, 3) := by decide +kernel
theorem dX4_nextNew_22 : decode cX4_nextNew 22 = .ok (.bipush (-2), 2) := by decide +kernel
theorem dX4_nextNew_24 : decode cX4_nextNew 24 = .ok (.ireturn, 1) := by decide +kernel
theorem dX4_nextNew_25 : decode cX4_nextNew 25 = .ok (.iload_n 2, 1) := by decide +kernel
theorem dX4_nextNew_26 : decode cX4_nextNew 26 = .ok (.istore 4, 2) := by decide +kernel
theorem dX4_nextNew_28 : decode cX4_nextNew 28 = .ok (.iload 4, 2) := by decide +kernel
theorem dX4_nextNew_30 : decode cX4_nextNew 30 = .ok (.ldc 184, 2) := by decide +kernel
theorem dX4_nextNew_32 : decode cX4_nextNew 32 = .ok (.if_icmp .ge 31, 3) := by decide +kernel
theorem dX4_nextNew_35 : decode cX4_nextNew 35 = .ok (.aload_n 3, 1) := by decide +kernel
theorem dX4_nextNew_36 : decode cX4_nextNew 36 = .ok (.iload 4, 2) := by decide +kernel
theorem dX4_nextNew_38 : decode cX4_nextNew 38 = .ok (.aload_n 0, 1) := by decide +kernel
theorem dX4_nextNew_39 : decode cX4_nextNew 39 = .ok (.getfield 10, 3) := by decide +kernel
theorem dX4_nextNew_42 : decode cX4_nextNew 42 = .ok (.getfield 50, 3) := by decide +kernel
theorem dX4_nextNew_45 : decode cX4_nextNew 45 = .ok (.invokestatic 105, 3) := by decide +kernel
theorem dX4_nextNew_48 : decode cX4_nextNew 48 = .ok (.invokevirtual 116, 3) := by decide +kernel
theorem dX4_nextNew_51 : decode cX4_nextNew 51 = .ok (.ifCond .eq 6, 3) := by decide +kernel
theorem dX4_nextNew_54 : decode cX4_nextNew 54 = .ok (.iload 4, 2) := by decide +kernel
theorem dX4_nextNew_56 : decode cX4_nextNew 56 = .ok (.ireturn, 1) := by decide +kernel
theorem dX4_nextNew_57 : decode cX4_nextNew 57 = .ok (.iinc 4 1, 3) := by decide +kernel
theorem dX4_nextNew_60 : decode cX4_nextNew 60 = .ok (.goto (-32), 3) := by decide +kernel
theorem dX4_nextNew_63 : decode cX4_nextNew 63 = .ok (.bipush (-6), 2) := by decide +kernel
theorem dX4_nextNew_65 : decode cX4_nextNew 65 = .ok (.ireturn, 1) := by decide +kernel
set_option maxRecDepth 20000 in
theorem ggX4_bestSalt_X3_sketchAt : GoodIn wsX4_bestSalt wsX3_sketchAt := goodIn_r _ [6, 7, 122, 123] (by decide +kernel) (by decide +kernel)
set_option maxRecDepth 20000 in
theorem gX4_bestSalt_X3_sketchAt : GoodIn wsX4_bestSalt (wsV RX4 58 RX3 yX3_sketchAt wsX3_sketchAt) := goodIn_app (goodIn_of _ (by decide +kernel)) ggX4_bestSalt_X3_sketchAt
set_option maxRecDepth 20000 in
theorem ggX4_bestSalt_X4_distanceBySalt : GoodIn wsX4_bestSalt wsX4_distanceBySalt := goodIn_r _ [12, 13, 14, 15, 16, 17, 18, 19, 20, 21, 22, 23, 24, 25, 26, 27, 28, 29, 30, 31, 32, 33, 34, 35, 36, 37, 38, 39, 40, 41, 11, 42, 43, 44, 45, 46, 47, 48, 49, 50, 51, 52, 53, 54, 55, 56, 57, 58, 59, 60, 61, 62, 63, 64, 65, 66, 67, 68, 69, 70, 71, 72, 73, 74, 75, 76, 77, 78, 79, 80, 81, 82, 83, 84, 85, 86, 87, 88, 89, 90, 91, 92, 93, 94, 95, 96, 97, 98, 99, 100, 101, 102, 103, 104, 105, 106, 107, 108, 109, 110, 111, 112, 113, 114, 115, 116, 117, 118, 119, 120, 121] (by decide +kernel) (by decide +kernel)
set_option maxRecDepth 20000 in
theorem gX4_bestSalt_X4_distanceBySalt : GoodIn wsX4_bestSalt (wsV RX4 185 RX4 yX4_distanceBySalt wsX4_distanceBySalt) := goodIn_app (goodIn_of _ (by decide +kernel)) ggX4_bestSalt_X4_distanceBySalt
theorem dX4_bestSalt_0 : decode cX4_bestSalt 0 = .ok (.aload_n 0, 1) := by decide +kernel
theorem dX4_bestSalt_1 : decode cX4_bestSalt 1 = .ok (.getfield 10, 3) := by decide +kernel
theorem dX4_bestSalt_4 : decode cX4_bestSalt 4 = .ok (.iload_n 1, 1) := by decide +kernel
theorem dX4_bestSalt_5 : decode cX4_bestSalt 5 = .ok (.invokevirtual 58, 3) := by decide +kernel
theorem dX4_bestSalt_8 : decode cX4_bestSalt 8 = .ok (.astore_n 2, 1) := by decide +kernel
theorem dX4_bestSalt_9 : decode cX4_bestSalt 9 = .ok (.aload_n 2, 1) := by decide +kernel
theorem dX4_bestSalt_10 : decode cX4_bestSalt 10 = .ok (.ifnonnull 5, 3) := by decide +kernel
theorem dX4_bestSalt_13 : decode cX4_bestSalt 13 = .ok (.iconst (-1), 1) := by decide +kernel
theorem dX4_bestSalt_14 : decode cX4_bestSalt 14 = .ok (.ireturn, 1) := by decide +kernel
theorem dX4_bestSalt_15 : decode cX4_bestSalt 15 = .ok (.aload_n 2, 1) := by decide +kernel
theorem dX4_bestSalt_16 : decode cX4_bestSalt 16 = .ok (.getfield 140, 3) := by decide +kernel
theorem dX4_bestSalt_19 : decode cX4_bestSalt 19 = .ok (.ifCond .eq 6, 3) := by decide +kernel
theorem dX4_bestSalt_22 : decode cX4_bestSalt 22 = .ok (.bipush (-5), 2) := by decide +kernel
theorem dX4_bestSalt_24 : decode cX4_bestSalt 24 = .ok (.ireturn, 1) := by decide +kernel
theorem dX4_bestSalt_25 : decode cX4_bestSalt 25 = .ok (.iconst 0, 1) := by decide +kernel
theorem dX4_bestSalt_26 : decode cX4_bestSalt 26 = .ok (.istore_n 3, 1) := by decide +kernel
theorem dX4_bestSalt_27 : decode cX4_bestSalt 27 = .ok (.aload_n 0, 1) := by decide +kernel
theorem dX4_bestSalt_28 : decode cX4_bestSalt 28 = .ok (.aload_n 2, 1) := by decide +kernel
theorem dX4_bestSalt_29 : decode cX4_bestSalt 29 = .ok (.iconst 0, 1) := by decide +kernel
theorem dX4_bestSalt_30 : decode cX4_bestSalt 30 = .ok (.invokevirtual 185, 3) := by decide +kernel
theorem dX4_bestSalt_33 : decode cX4_bestSalt 33 = .ok (.istore 4, 2) := by decide +kernel
theorem dX4_bestSalt_35 : decode cX4_bestSalt 35 = .ok (.iconst 1, 1) := by decide +kernel
theorem dX4_bestSalt_36 : decode cX4_bestSalt 36 = .ok (.istore 5, 2) := by decide +kernel
theorem dX4_bestSalt_38 : decode cX4_bestSalt 38 = .ok (.iload 5, 2) := by decide +kernel
theorem dX4_bestSalt_40 : decode cX4_bestSalt 40 = .ok (.sipush 256, 3) := by decide +kernel
theorem dX4_bestSalt_43 : decode cX4_bestSalt 43 = .ok (.if_icmp .ge 32, 3) := by decide +kernel
theorem dX4_bestSalt_46 : decode cX4_bestSalt 46 = .ok (.aload_n 0, 1) := by decide +kernel
theorem dX4_bestSalt_47 : decode cX4_bestSalt 47 = .ok (.aload_n 2, 1) := by decide +kernel
theorem dX4_bestSalt_48 : decode cX4_bestSalt 48 = .ok (.iload 5, 2) := by decide +kernel
theorem dX4_bestSalt_50 : decode cX4_bestSalt 50 = .ok (.invokevirtual 185, 3) := by decide +kernel
theorem dX4_bestSalt_53 : decode cX4_bestSalt 53 = .ok (.istore 6, 2) := by decide +kernel
theorem dX4_bestSalt_55 : decode cX4_bestSalt 55 = .ok (.iload 6, 2) := by decide +kernel
theorem dX4_bestSalt_57 : decode cX4_bestSalt 57 = .ok (.iload 4, 2) := by decide +kernel
theorem dX4_bestSalt_59 : decode cX4_bestSalt 59 = .ok (.if_icmp .ge 10, 3) := by decide +kernel
theorem dX4_bestSalt_62 : decode cX4_bestSalt 62 = .ok (.iload 6, 2) := by decide +kernel
theorem dX4_bestSalt_64 : decode cX4_bestSalt 64 = .ok (.istore 4, 2) := by decide +kernel
theorem dX4_bestSalt_66 : decode cX4_bestSalt 66 = .ok (.iload 5, 2) := by decide +kernel
theorem dX4_bestSalt_68 : decode cX4_bestSalt 68 = .ok (.istore_n 3, 1) := by decide +kernel
theorem dX4_bestSalt_69 : decode cX4_bestSalt 69 = .ok (.iinc 5 1, 3) := by decide +kernel
theorem dX4_bestSalt_72 : decode cX4_bestSalt 72 = .ok (.goto (-34), 3) := by decide +kernel
theorem dX4_bestSalt_75 : decode cX4_bestSalt 75 = .ok (.iload_n 3, 1) := by decide +kernel
theorem dX4_bestSalt_76 : decode cX4_bestSalt 76 = .ok (.ireturn, 1) := by decide +kernel
set_option maxRecDepth 20000 in
theorem ggX4_put_X4_charactersIn : GoodIn wsX4_put wsX4_charactersIn := goodIn_r _ [6, 2] (by decide +kernel) (by decide +kernel)
set_option maxRecDepth 20000 in
theorem gX4_put_X4_charactersIn : GoodIn wsX4_put (va_wsS RX4 189 yX4_charactersIn wsX4_charactersIn) := goodIn_app (goodIn_of _ (by decide +kernel)) ggX4_put_X4_charactersIn
set_option maxRecDepth 20000 in
theorem ggX4_put_X1_append : GoodIn wsX4_put wsX1_append := goodIn_r _ [11, 12, 13, 20, 21, 22, 23, 24, 25, 26] (by decide +kernel) (by decide +kernel)
set_option maxRecDepth 20000 in
theorem gX4_put_X1_append : GoodIn wsX4_put (wsV RX4 195 RX1 yX1_append wsX1_append) := goodIn_app (goodIn_of _ (by decide +kernel)) ggX4_put_X1_append
theorem dX4_put_0 : decode cX4_put 0 = .ok (.lload_n 1, 1) := by decide +kernel
theorem dX4_put_1 : decode cX4_put 1 = .ok (.invokestatic 189, 3) := by decide +kernel
theorem dX4_put_4 : decode cX4_put 4 = .ok (.istore_n 3, 1) := by decide +kernel
theorem dX4_put_5 : decode cX4_put 5 = .ok (.iload_n 3, 1) := by decide +kernel
theorem dX4_put_6 : decode cX4_put 6 = .ok (.ifCond .ne 6, 3) := by decide +kernel
theorem dX4_put_9 : decode cX4_put 9 = .ok (.bipush (-2), 2) := by decide +kernel
theorem dX4_put_11 : decode cX4_put 11 = .ok (.ireturn, 1) := by decide +kernel
theorem dX4_put_12 : decode cX4_put 12 = .ok (.aload_n 0, 1) := by decide +kernel
theorem dX4_put_13 : decode cX4_put 13 = .ok (.getfield 34, 3) := by decide +kernel
theorem dX4_put_16 : decode cX4_put 16 = .ok (.getfield 168, 3) := by decide +kernel
theorem dX4_put_19 : decode cX4_put 19 = .ok (.iload_n 3, 1) := by decide +kernel
theorem dX4_put_20 : decode cX4_put 20 = .ok (.iadd, 1) := by decide +kernel
theorem dX4_put_21 : decode cX4_put 21 = .ok (.bipush 80, 2) := by decide +kernel
theorem dX4_put_23 : decode cX4_put 23 = .ok (.if_icmp .le 6, 3) := by decide +kernel
theorem dX4_put_26 : decode cX4_put 26 = .ok (.bipush (-4), 2) := by decide +kernel
theorem dX4_put_28 : decode cX4_put 28 = .ok (.ireturn, 1) := by decide +kernel
theorem dX4_put_29 : decode cX4_put 29 = .ok (.iload_n 3, 1) := by decide +kernel
theorem dX4_put_30 : decode cX4_put 30 = .ok (.iconst 1, 1) := by decide +kernel
theorem dX4_put_31 : decode cX4_put 31 = .ok (.isub, 1) := by decide +kernel
theorem dX4_put_32 : decode cX4_put 32 = .ok (.istore 4, 2) := by decide +kernel
theorem dX4_put_34 : decode cX4_put 34 = .ok (.iload 4, 2) := by decide +kernel
theorem dX4_put_36 : decode cX4_put 36 = .ok (.ifCond .lt 29, 3) := by decide +kernel
theorem dX4_put_39 : decode cX4_put 39 = .ok (.aload_n 0, 1) := by decide +kernel
theorem dX4_put_40 : decode cX4_put 40 = .ok (.getfield 34, 3) := by decide +kernel
theorem dX4_put_43 : decode cX4_put 43 = .ok (.lload_n 1, 1) := by decide +kernel
theorem dX4_put_44 : decode cX4_put 44 = .ok (.bipush 8, 2) := by decide +kernel
theorem dX4_put_46 : decode cX4_put 46 = .ok (.iload 4, 2) := by decide +kernel
theorem dX4_put_48 : decode cX4_put 48 = .ok (.imul, 1) := by decide +kernel
theorem dX4_put_49 : decode cX4_put 49 = .ok (.lushr, 1) := by decide +kernel
theorem dX4_put_50 : decode cX4_put 50 = .ok (.ldc2_w 193, 3) := by decide +kernel
theorem dX4_put_53 : decode cX4_put 53 = .ok (.land, 1) := by decide +kernel
theorem dX4_put_54 : decode cX4_put 54 = .ok (.l2i, 1) := by decide +kernel
theorem dX4_put_55 : decode cX4_put 55 = .ok (.i2c, 1) := by decide +kernel
theorem dX4_put_56 : decode cX4_put 56 = .ok (.invokevirtual 195, 3) := by decide +kernel
theorem dX4_put_59 : decode cX4_put 59 = .ok (.iinc 4 (-1), 3) := by decide +kernel
theorem dX4_put_62 : decode cX4_put 62 = .ok (.goto (-28), 3) := by decide +kernel
theorem dX4_put_65 : decode cX4_put 65 = .ok (.aload_n 0, 1) := by decide +kernel
theorem dX4_put_66 : decode cX4_put 66 = .ok (.getfield 34, 3) := by decide +kernel
theorem dX4_put_69 : decode cX4_put 69 = .ok (.getfield 168, 3) := by decide +kernel
theorem dX4_put_72 : decode cX4_put 72 = .ok (.ireturn, 1) := by decide +kernel
set_option maxRecDepth 20000 in
theorem ggX4_wipe_X1_clear : GoodIn wsX4_wipe wsX1_clear := goodIn_r _ [6, 7, 14, 15, 16, 17, 18, 19, 20] (by decide +kernel) (by decide +kernel)
set_option maxRecDepth 20000 in
theorem gX4_wipe_X1_clear : GoodIn wsX4_wipe (wsV RX4 199 RX1 yX1_clear wsX1_clear) := goodIn_app (goodIn_of _ (by decide +kernel)) ggX4_wipe_X1_clear
theorem dX4_wipe_0 : decode cX4_wipe 0 = .ok (.aload_n 0, 1) := by decide +kernel
theorem dX4_wipe_1 : decode cX4_wipe 1 = .ok (.getfield 34, 3) := by decide +kernel
theorem dX4_wipe_4 : decode cX4_wipe 4 = .ok (.getfield 168, 3) := by decide +kernel
theorem dX4_wipe_7 : decode cX4_wipe 7 = .ok (.istore_n 1, 1) := by decide +kernel
theorem dX4_wipe_8 : decode cX4_wipe 8 = .ok (.aload_n 0, 1) := by decide +kernel
theorem dX4_wipe_9 : decode cX4_wipe 9 = .ok (.getfield 34, 3) := by decide +kernel
theorem dX4_wipe_12 : decode cX4_wipe 12 = .ok (.invokevirtual 199, 3) := by decide +kernel
theorem dX4_wipe_15 : decode cX4_wipe 15 = .ok (.iload_n 1, 1) := by decide +kernel
theorem dX4_wipe_16 : decode cX4_wipe 16 = .ok (.ireturn, 1) := by decide +kernel
set_option maxRecDepth 20000 in
theorem ggX4_fault_X1_faultPlace : GoodIn wsX4_fault wsX1_faultPlace := goodIn_r _ [6, 7, 8, 9, 10, 11, 5, 12, 13, 14, 15, 16, 17, 18, 19, 20, 21, 22, 23, 24, 25, 26, 27, 28, 29, 30, 31, 32, 33, 34, 35, 36, 37, 38, 39, 40, 41, 42, 43, 44, 45, 46, 47, 48, 49, 50, 51, 52, 53, 54, 61, 62, 63, 64, 65, 66, 67] (by decide +kernel) (by decide +kernel)
set_option maxRecDepth 20000 in
theorem gX4_fault_X1_faultPlace : GoodIn wsX4_fault (wsV RX4 202 RX1 yX1_faultPlace wsX1_faultPlace) := goodIn_app (goodIn_of _ (by decide +kernel)) ggX4_fault_X1_faultPlace
theorem dX4_fault_0 : decode cX4_fault 0 = .ok (.aload_n 0, 1) := by decide +kernel
theorem dX4_fault_1 : decode cX4_fault 1 = .ok (.getfield 34, 3) := by decide +kernel
theorem dX4_fault_4 : decode cX4_fault 4 = .ok (.invokevirtual 202, 3) := by decide +kernel
theorem dX4_fault_7 : decode cX4_fault 7 = .ok (.ireturn, 1) := by decide +kernel
set_option maxRecDepth 20000 in
theorem ggX4_carryOut_X1_faultPlace : GoodIn wsX4_carryOut wsX1_faultPlace := goodIn_r _ [8, 9, 10, 11, 12, 13, 7, 14, 15, 16, 17, 18, 19, 20, 21, 22, 23, 24, 25, 26, 27, 28, 29, 30, 31, 32, 33, 34, 35, 36, 37, 38, 39, 40, 41, 42, 43, 44, 45, 46, 47, 48, 49, 50, 51, 52, 53, 54, 55, 56, 229, 230, 231, 232, 233, 234, 235] (by decide +kernel) (by decide +kernel)
set_option maxRecDepth 20000 in
theorem gX4_carryOut_X1_faultPlace : GoodIn wsX4_carryOut (wsV RX4 202 RX1 yX1_faultPlace wsX1_faultPlace) := goodIn_app (goodIn_of _ (by decide +kernel)) ggX4_carryOut_X1_faultPlace
set_option maxRecDepth 20000 in
theorem ggX4_carryOut_X0_record : GoodIn wsX4_carryOut wsX0_record := goodIn_r _ [61, 62, 63, 64, 65, 66, 67, 68, 69, 70, 71, 72, 73, 74, 75, 76, 77, 78, 79, 80, 81, 82, 83, 84, 85, 86, 87, 88, 89, 236, 237, 238, 239, 240, 241, 242, 243, 244, 245] (by decide +kernel) (by decide +kernel)
set_option maxRecDepth 20000 in
theorem gX4_carryOut_X0_record : GoodIn wsX4_carryOut (wsV RX4 46 RX0 yX0_record wsX0_record) := goodIn_app (goodIn_of _ (by decide +kernel)) ggX4_carryOut_X0_record
set_option maxRecDepth 20000 in
theorem ggX4_carryOut_X1_goToStart : GoodIn wsX4_carryOut wsX1_goToStart := goodIn_r _ [14, 9, 229, 230, 231, 232, 233, 234, 235] (by decide +kernel) (by decide +kernel)
set_option maxRecDepth 20000 in
theorem gX4_carryOut_X1_goToStart : GoodIn wsX4_carryOut (wsV RX4 205 RX1 yX1_goToStart wsX1_goToStart) := goodIn_app (goodIn_of _ (by decide +kernel)) ggX4_carryOut_X1_goToStart
set_option maxRecDepth 20000 in
theorem ggX4_carryOut_X1_readOrder : GoodIn wsX4_carryOut wsX1_readOrder := goodIn_r _ [18, 19, 20, 9, 21, 22, 23, 24, 7, 25, 26, 27, 28, 29, 30, 31, 32, 33, 10, 34, 35, 36, 37, 38, 39, 40, 41, 42, 43, 44, 45, 46, 47, 48, 49, 50, 51, 52, 53, 54, 55, 56, 229, 230, 231, 232, 233, 234, 235] (by decide +kernel) (by decide +kernel)
set_option maxRecDepth 20000 in
theorem gX4_carryOut_X1_readOrder : GoodIn wsX4_carryOut (wsV RX4 208 RX1 yX1_readOrder wsX1_readOrder) := goodIn_app (goodIn_of _ (by decide +kernel)) ggX4_carryOut_X1_readOrder
set_option maxRecDepth 20000 in
theorem ggX4_carryOut_X4_carryOrderOut : GoodIn wsX4_carryOut wsX4_carryOrderOut := goodIn_r _ [96, 3, 1, 97, 98, 99, 72, 100, 75, 101, 102, 103, 95, 104, 105, 106, 107, 7, 108, 19, 48, 109, 110, 111, 112, 113, 114, 115, 116, 117, 118, 119, 120, 79, 121, 122, 123, 124, 125, 126, 127, 128, 129, 81, 130, 131, 132, 133, 134, 135, 136, 137, 138, 139, 140, 141, 142, 143, 144, 82, 145, 146, 147, 148, 149, 150, 151, 152, 89, 88, 87, 153, 154, 155, 156, 157, 158, 159, 160, 161, 162, 163, 164, 165, 166, 167, 168, 169, 170, 171, 172, 173, 174, 175, 176, 177, 178, 179, 180, 181, 182, 183, 184, 185, 186, 187, 188, 189, 190, 191, 192, 193, 194, 195, 196, 197, 198, 199, 200, 201, 202, 203, 204, 205, 206, 207, 208, 209, 210, 211, 212, 213, 214, 215, 216, 217, 223, 224, 225, 226, 227, 228, 229, 230, 231, 232, 233, 234, 235, 241, 242, 243, 244, 245, 239, 240] (by decide +kernel) (by decide +kernel)
set_option maxRecDepth 20000 in
theorem gX4_carryOut_X4_carryOrderOut : GoodIn wsX4_carryOut (wsV RX4 212 RX4 yX4_carryOrderOut wsX4_carryOrderOut) := goodIn_app (goodIn_of _ (by decide +kernel)) ggX4_carryOut_X4_carryOrderOut
set_option maxRecDepth 20000 in
theorem ggX4_carryOut_X1_accept : GoodIn wsX4_carryOut wsX1_accept := goodIn_r _ [52, 9, 30, 31, 32, 7, 33, 10, 34, 229, 230, 231, 232, 233, 234, 235] (by decide +kernel) (by decide +kernel)
set_option maxRecDepth 20000 in
theorem gX4_carryOut_X1_accept : GoodIn wsX4_carryOut (wsV RX4 215 RX1 yX1_accept wsX1_accept) := goodIn_app (goodIn_of _ (by decide +kernel)) ggX4_carryOut_X1_accept
set_option maxRecDepth 20000 in
theorem ggX4_carryOut_X1_clear : GoodIn wsX4_carryOut wsX1_clear := goodIn_r _ [222, 10, 229, 230, 231, 232, 233, 234, 235] (by decide +kernel) (by decide +kernel)
set_option maxRecDepth 20000 in
theorem gX4_carryOut_X1_clear : GoodIn wsX4_carryOut (wsV RX4 199 RX1 yX1_clear wsX1_clear) := goodIn_app (goodIn_of _ (by decide +kernel)) ggX4_carryOut_X1_clear
theorem dX4_carryOut_0 : decode cX4_carryOut 0 = .ok (.aload_n 0, 1) := by decide +kernel
theorem dX4_carryOut_1 : decode cX4_carryOut 1 = .ok (.getfield 34, 3) := by decide +kernel
theorem dX4_carryOut_4 : decode cX4_carryOut 4 = .ok (.invokevirtual 202, 3) := by decide +kernel
theorem dX4_carryOut_7 : decode cX4_carryOut 7 = .ok (.bipush (-6), 2) := by decide +kernel
theorem dX4_carryOut_9 : decode cX4_carryOut 9 = .ok (.if_icmp .eq 6, 3) := by decide +kernel
theorem dX4_carryOut_12 : decode cX4_carryOut 12 = .ok (.bipush (-3), 2) := by decide +kernel
theorem dX4_carryOut_14 : decode cX4_carryOut 14 = .ok (.ireturn, 1) := by decide +kernel
theorem dX4_carryOut_15 : decode cX4_carryOut 15 = .ok (.aload_n 0, 1) := by decide +kernel
theorem dX4_carryOut_16 : decode cX4_carryOut 16 = .ok (.getfield 19, 3) := by decide +kernel
theorem dX4_carryOut_19 : decode cX4_carryOut 19 = .ok (.aload_n 0, 1) := by decide +kernel
theorem dX4_carryOut_20 : decode cX4_carryOut 20 = .ok (.getfield 10, 3) := by decide +kernel
theorem dX4_carryOut_23 : decode cX4_carryOut 23 = .ok (.invokevirtual 46, 3) := by decide +kernel
theorem dX4_carryOut_26 : decode cX4_carryOut 26 = .ok (.iconst 0, 1) := by decide +kernel
theorem dX4_carryOut_27 : decode cX4_carryOut 27 = .ok (.istore_n 1, 1) := by decide +kernel
theorem dX4_carryOut_28 : decode cX4_carryOut 28 = .ok (.aload_n 0, 1) := by decide +kernel
theorem dX4_carryOut_29 : decode cX4_carryOut 29 = .ok (.getfield 34, 3) := by decide +kernel
theorem dX4_carryOut_32 : decode cX4_carryOut 32 = .ok (.invokevirtual 205, 3) := by decide +kernel
theorem dX4_carryOut_35 : decode cX4_carryOut 35 = .ok (.iload_n 1, 1) := by decide +kernel
theorem dX4_carryOut_36 : decode cX4_carryOut 36 = .ok (.bipush 80, 2) := by decide +kernel
theorem dX4_carryOut_38 : decode cX4_carryOut 38 = .ok (.if_icmp .ge 38, 3) := by decide +kernel
theorem dX4_carryOut_41 : decode cX4_carryOut 41 = .ok (.aload_n 0, 1) := by decide +kernel
theorem dX4_carryOut_42 : decode cX4_carryOut 42 = .ok (.getfield 34, 3) := by decide +kernel
theorem dX4_carryOut_45 : decode cX4_carryOut 45 = .ok (.invokevirtual 208, 3) := by decide +kernel
theorem dX4_carryOut_48 : decode cX4_carryOut 48 = .ok (.ifCond .eq 28, 3) := by decide +kernel
theorem dX4_carryOut_51 : decode cX4_carryOut 51 = .ok (.aload_n 0, 1) := by decide +kernel
theorem dX4_carryOut_52 : decode cX4_carryOut 52 = .ok (.invokevirtual 212, 3) := by decide +kernel
theorem dX4_carryOut_55 : decode cX4_carryOut 55 = .ok (.ifCond .eq 21, 3) := by decide +kernel
theorem dX4_carryOut_58 : decode cX4_carryOut 58 = .ok (.iinc 1 1, 3) := by decide +kernel
theorem dX4_carryOut_61 : decode cX4_carryOut 61 = .ok (.aload_n 0, 1) := by decide +kernel
theorem dX4_carryOut_62 : decode cX4_carryOut 62 = .ok (.getfield 34, 3) := by decide +kernel
theorem dX4_carryOut_65 : decode cX4_carryOut 65 = .ok (.bipush 59, 2) := by decide +kernel
theorem dX4_carryOut_67 : decode cX4_carryOut 67 = .ok (.invokevirtual 215, 3) := by decide +kernel
theorem dX4_carryOut_70 : decode cX4_carryOut 70 = .ok (.ifCond .ne (-35), 3) := by decide +kernel
theorem dX4_carryOut_73 : decode cX4_carryOut 73 = .ok (.goto 3, 3) := by decide +kernel
theorem dX4_carryOut_76 : decode cX4_carryOut 76 = .ok (.aload_n 0, 1) := by decide +kernel
theorem dX4_carryOut_77 : decode cX4_carryOut 77 = .ok (.getfield 34, 3) := by decide +kernel
theorem dX4_carryOut_80 : decode cX4_carryOut 80 = .ok (.invokevirtual 199, 3) := by decide +kernel
theorem dX4_carryOut_83 : decode cX4_carryOut 83 = .ok (.iload_n 1, 1) := by decide +kernel
theorem dX4_carryOut_84 : decode cX4_carryOut 84 = .ok (.ireturn, 1) := by decide +kernel
set_option maxRecDepth 20000 in
theorem ggX4_undo_X0_takeBack : GoodIn wsX4_undo wsX0_takeBack := goodIn_r _ [7, 8, 9, 10, 11, 12, 13, 14, 15, 16, 17, 18, 19, 20, 21, 22, 23, 24, 25, 26, 27, 28, 29, 30, 31, 32, 33, 34, 35, 42, 43, 44, 45, 46, 47, 48, 49, 50, 51] (by decide +kernel) (by decide +kernel)
set_option maxRecDepth 20000 in
theorem gX4_undo_X0_takeBack : GoodIn wsX4_undo (wsV RX4 219 RX0 yX0_takeBack wsX0_takeBack) := goodIn_app (goodIn_of _ (by decide +kernel)) ggX4_undo_X0_takeBack
theorem dX4_undo_0 : decode cX4_undo 0 = .ok (.aload_n 0, 1) := by decide +kernel
theorem dX4_undo_1 : decode cX4_undo 1 = .ok (.getfield 19, 3) := by decide +kernel
theorem dX4_undo_4 : decode cX4_undo 4 = .ok (.getfield 171, 3) := by decide +kernel
theorem dX4_undo_7 : decode cX4_undo 7 = .ok (.ifCond .ne 6, 3) := by decide +kernel
theorem dX4_undo_10 : decode cX4_undo 10 = .ok (.bipush (-5), 2) := by decide +kernel
theorem dX4_undo_12 : decode cX4_undo 12 = .ok (.ireturn, 1) := by decide +kernel
theorem dX4_undo_13 : decode cX4_undo 13 = .ok (.aload_n 0, 1) := by decide +kernel
theorem dX4_undo_14 : decode cX4_undo 14 = .ok (.getfield 19, 3) := by decide +kernel
theorem dX4_undo_17 : decode cX4_undo 17 = .ok (.aload_n 0, 1) := by decide +kernel
theorem dX4_undo_18 : decode cX4_undo 18 = .ok (.getfield 10, 3) := by decide +kernel
theorem dX4_undo_21 : decode cX4_undo 21 = .ok (.invokevirtual 219, 3) := by decide +kernel
theorem dX4_undo_24 : decode cX4_undo 24 = .ok (.aload_n 0, 1) := by decide +kernel
theorem dX4_undo_25 : decode cX4_undo 25 = .ok (.getfield 19, 3) := by decide +kernel
theorem dX4_undo_28 : decode cX4_undo 28 = .ok (.getfield 171, 3) := by decide +kernel
theorem dX4_undo_31 : decode cX4_undo 31 = .ok (.ireturn, 1) := by decide +kernel
set_option maxRecDepth 20000 in
theorem ggX4_save_X3_copyFrom : GoodIn wsX4_save wsX3_copyFrom := goodIn_r _ [8, 9, 10, 11, 12, 13, 14, 15, 16, 17, 18, 19, 20, 21, 22, 23, 24, 51, 52, 53, 54, 55, 56, 57] (by decide +kernel) (by decide +kernel)
set_option maxRecDepth 20000 in
theorem gX4_save_X3_copyFrom : GoodIn wsX4_save (wsV RX4 222 RX3 yX3_copyFrom wsX3_copyFrom) := goodIn_app (goodIn_of _ (by decide +kernel)) ggX4_save_X3_copyFrom
set_option maxRecDepth 20000 in
theorem ggX4_save_X3_filledBuckets : GoodIn wsX4_save wsX3_filledBuckets := goodIn_r _ [28, 10, 29, 30, 31, 14, 32, 33, 34, 35, 36, 16, 37, 38, 39, 40, 17, 41, 42, 43, 44, 51, 52, 53, 54, 55, 56, 57] (by decide +kernel) (by decide +kernel)
set_option maxRecDepth 20000 in
theorem gX4_save_X3_filledBuckets : GoodIn wsX4_save (wsV RX4 164 RX3 yX3_filledBuckets wsX3_filledBuckets) := goodIn_app (goodIn_of _ (by decide +kernel)) ggX4_save_X3_filledBuckets
theorem dX4_save_0 : decode cX4_save 0 = .ok (.iload_n 1, 1) := by decide +kernel
theorem dX4_save_1 : decode cX4_save 1 = .ok (.ifCond .lt 8, 3) := by decide +kernel
theorem dX4_save_4 : decode cX4_save 4 = .ok (.iload_n 1, 1) := by decide +kernel
theorem dX4_save_5 : decode cX4_save 5 = .ok (.iconst 2, 1) := by decide +kernel
theorem dX4_save_6 : decode cX4_save 6 = .ok (.if_icmp .lt 6, 3) := by decide +kernel
theorem dX4_save_9 : decode cX4_save 9 = .ok (.bipush (-2), 2) := by decide +kernel
theorem dX4_save_11 : decode cX4_save 11 = .ok (.ireturn, 1) := by decide +kernel
theorem dX4_save_12 : decode cX4_save 12 = .ok (.aload_n 0, 1) := by decide +kernel
theorem dX4_save_13 : decode cX4_save 13 = .ok (.getfield 23, 3) := by decide +kernel
theorem dX4_save_16 : decode cX4_save 16 = .ok (.iload_n 1, 1) := by decide +kernel
theorem dX4_save_17 : decode cX4_save 17 = .ok (.aaload, 1) := by decide +kernel
theorem dX4_save_18 : decode cX4_save 18 = .ok (.aload_n 0, 1) := by decide +kernel
theorem dX4_save_19 : decode cX4_save 19 = .ok (.getfield 10, 3) := by decide +kernel
theorem dX4_save_22 : decode cX4_save 22 = .ok (.invokevirtual 222, 3) := by decide +kernel
theorem dX4_save_25 : decode cX4_save 25 = .ok (.aload_n 0, 1) := by decide +kernel
theorem dX4_save_26 : decode cX4_save 26 = .ok (.getfield 27, 3) := by decide +kernel
theorem dX4_save_29 : decode cX4_save 29 = .ok (.iload_n 1, 1) := by decide +kernel
theorem dX4_save_30 : decode cX4_save 30 = .ok (.iconst 1, 1) := by decide +kernel
theorem dX4_save_31 : decode cX4_save 31 = .ok (.bastore, 1) := by decide +kernel
theorem dX4_save_32 : decode cX4_save 32 = .ok (.aload_n 0, 1) := by decide +kernel
theorem dX4_save_33 : decode cX4_save 33 = .ok (.getfield 10, 3) := by decide +kernel
theorem dX4_save_36 : decode cX4_save 36 = .ok (.invokevirtual 164, 3) := by decide +kernel
theorem dX4_save_39 : decode cX4_save 39 = .ok (.ireturn, 1) := by decide +kernel
set_option maxRecDepth 20000 in
theorem ggX4_restore_X0_record : GoodIn wsX4_restore wsX0_record := goodIn_r _ [9, 10, 11, 12, 13, 14, 15, 16, 17, 18, 19, 20, 21, 22, 23, 24, 25, 26, 27, 28, 29, 30, 31, 32, 33, 34, 35, 36, 37, 65, 66, 67, 68, 69, 70, 71, 72, 73, 74] (by decide +kernel) (by decide +kernel)
set_option maxRecDepth 20000 in
theorem gX4_restore_X0_record : GoodIn wsX4_restore (wsV RX4 46 RX0 yX0_record wsX0_record) := goodIn_app (goodIn_of _ (by decide +kernel)) ggX4_restore_X0_record
set_option maxRecDepth 20000 in
theorem ggX4_restore_X3_copyFrom : GoodIn wsX4_restore wsX3_copyFrom := goodIn_r _ [21, 22, 23, 24, 25, 26, 27, 28, 29, 30, 31, 32, 33, 34, 35, 36, 37, 68, 69, 70, 71, 72, 73, 74] (by decide +kernel) (by decide +kernel)
set_option maxRecDepth 20000 in
theorem gX4_restore_X3_copyFrom : GoodIn wsX4_restore (wsV RX4 222 RX3 yX3_copyFrom wsX3_copyFrom) := goodIn_app (goodIn_of _ (by decide +kernel)) ggX4_restore_X3_copyFrom
set_option maxRecDepth 20000 in
theorem ggX4_restore_X3_filledBuckets : GoodIn wsX4_restore wsX3_filledBuckets := goodIn_r _ [42, 23, 43, 44, 45, 27, 46, 47, 48, 49, 50, 29, 51, 52, 53, 54, 30, 55, 56, 57, 58, 68, 69, 70, 71, 72, 73, 74] (by decide +kernel) (by decide +kernel)
set_option maxRecDepth 20000 in
theorem gX4_restore_X3_filledBuckets : GoodIn wsX4_restore (wsV RX4 164 RX3 yX3_filledBuckets wsX3_filledBuckets) := goodIn_app (goodIn_of _ (by decide +kernel)) ggX4_restore_X3_filledBuckets
theorem dX4_restore_0 : decode cX4_restore 0 = .ok (.iload_n 1, 1) := by decide +kernel
theorem dX4_restore_1 : decode cX4_restore 1 = .ok (.ifCond .lt 8, 3) := by decide +kernel
theorem dX4_restore_4 : decode cX4_restore 4 = .ok (.iload_n 1, 1) := by decide +kernel
theorem dX4_restore_5 : decode cX4_restore 5 = .ok (.iconst 2, 1) := by decide +kernel
theorem dX4_restore_6 : decode cX4_restore 6 = .ok (.if_icmp .lt 6, 3) := by decide +kernel
theorem dX4_restore_9 : decode cX4_restore 9 = .ok (.bipush (-2), 2) := by decide +kernel
theorem dX4_restore_11 : decode cX4_restore 11 = .ok (.ireturn, 1) := by decide +kernel
theorem dX4_restore_12 : decode cX4_restore 12 = .ok (.aload_n 0, 1) := by decide +kernel
theorem dX4_restore_13 : decode cX4_restore 13 = .ok (.getfield 27, 3) := by decide +kernel
theorem dX4_restore_16 : decode cX4_restore 16 = .ok (.iload_n 1, 1) := by decide +kernel
theorem dX4_restore_17 : decode cX4_restore 17 = .ok (.baload, 1) := by decide +kernel
theorem dX4_restore_18 : decode cX4_restore 18 = .ok (.ifCond .ne 6, 3) := by decide +kernel
theorem dX4_restore_21 : decode cX4_restore 21 = .ok (.bipush (-5), 2) := by decide +kernel
theorem dX4_restore_23 : decode cX4_restore 23 = .ok (.ireturn, 1) := by decide +kernel
theorem dX4_restore_24 : decode cX4_restore 24 = .ok (.aload_n 0, 1) := by decide +kernel
theorem dX4_restore_25 : decode cX4_restore 25 = .ok (.getfield 19, 3) := by decide +kernel
theorem dX4_restore_28 : decode cX4_restore 28 = .ok (.aload_n 0, 1) := by decide +kernel
theorem dX4_restore_29 : decode cX4_restore 29 = .ok (.getfield 10, 3) := by decide +kernel
theorem dX4_restore_32 : decode cX4_restore 32 = .ok (.invokevirtual 46, 3) := by decide +kernel
theorem dX4_restore_35 : decode cX4_restore 35 = .ok (.aload_n 0, 1) := by decide +kernel
theorem dX4_restore_36 : decode cX4_restore 36 = .ok (.getfield 10, 3) := by decide +kernel
theorem dX4_restore_39 : decode cX4_restore 39 = .ok (.aload_n 0, 1) := by decide +kernel
theorem dX4_restore_40 : decode cX4_restore 40 = .ok (.getfield 23, 3) := by decide +kernel
theorem dX4_restore_43 : decode cX4_restore 43 = .ok (.iload_n 1, 1) := by decide +kernel
theorem dX4_restore_44 : decode cX4_restore 44 = .ok (.aaload, 1) := by decide +kernel
theorem dX4_restore_45 : decode cX4_restore 45 = .ok (.invokevirtual 222, 3) := by decide +kernel
theorem dX4_restore_48 : decode cX4_restore 48 = .ok (.aload_n 0, 1) := by decide +kernel
theorem dX4_restore_49 : decode cX4_restore 49 = .ok (.getfield 10, 3) := by decide +kernel
theorem dX4_restore_52 : decode cX4_restore 52 = .ok (.invokevirtual 164, 3) := by decide +kernel
theorem dX4_restore_55 : decode cX4_restore 55 = .ok (.ireturn, 1) := by decide +kernel
theorem dX4_isThing_0 : decode cX4_isThing 0 = .ok (.iload_n 0, 1) := by decide +kernel
theorem dX4_isThing_1 : decode cX4_isThing 1 = .ok (.ifCond .lt 13, 3) := by decide +kernel
theorem dX4_isThing_4 : decode cX4_isThing 4 = .ok (.iload_n 0, 1) := by decide +kernel
theorem dX4_isThing_5 : decode cX4_isThing 5 = .ok (.ldc 184, 2) := by decide +kernel
theorem dX4_isThing_7 : decode cX4_isThing 7 = .ok (.if_icmp .ge 7, 3) := by decide +kernel
theorem dX4_isThing_10 : decode cX4_isThing 10 = .ok (.iconst 1, 1) := by decide +kernel
theorem dX4_isThing_11 : decode cX4_isThing 11 = .ok (.goto 4, 3) := by decide +kernel
theorem dX4_isThing_14 : decode cX4_isThing 14 = .ok (.iconst 0, 1) := by decide +kernel
theorem dX4_isThing_15 : decode cX4_isThing 15 = .ok (.ireturn, 1) := by decide +kernel
set_option maxRecDepth 20000 in
theorem ggX4_isRange_X4_isThing : GoodIn wsX4_isRange wsX4_isThing := goodIn_r _ [5, 1] (by decide +kernel) (by decide +kernel)
set_option maxRecDepth 20000 in
theorem gX4_isRange_X4_isThing : GoodIn wsX4_isRange (va_wsS RX4 68 yX4_isThing wsX4_isThing) := goodIn_app (goodIn_of _ (by decide +kernel)) ggX4_isRange_X4_isThing
theorem dX4_isRange_0 : decode cX4_isRange 0 = .ok (.iload_n 0, 1) := by decide +kernel
theorem dX4_isRange_1 : decode cX4_isRange 1 = .ok (.invokestatic 68, 3) := by decide +kernel
theorem dX4_isRange_4 : decode cX4_isRange 4 = .ok (.ifCond .eq 27, 3) := by decide +kernel
theorem dX4_isRange_7 : decode cX4_isRange 7 = .ok (.iload_n 1, 1) := by decide +kernel
theorem dX4_isRange_8 : decode cX4_isRange 8 = .ok (.iconst 1, 1) := by decide +kernel
theorem dX4_isRange_9 : decode cX4_isRange 9 = .ok (.if_icmp .lt 22, 3) := by decide +kernel
theorem dX4_isRange_12 : decode cX4_isRange 12 = .ok (.iload_n 1, 1) := by decide +kernel
theorem dX4_isRange_13 : decode cX4_isRange 13 = .ok (.sipush 999, 3) := by decide +kernel
theorem dX4_isRange_16 : decode cX4_isRange 16 = .ok (.if_icmp .gt 15, 3) := by decide +kernel
theorem dX4_isRange_19 : decode cX4_isRange 19 = .ok (.iload_n 0, 1) := by decide +kernel
theorem dX4_isRange_20 : decode cX4_isRange 20 = .ok (.iload_n 1, 1) := by decide +kernel
theorem dX4_isRange_21 : decode cX4_isRange 21 = .ok (.iadd, 1) := by decide +kernel
theorem dX4_isRange_22 : decode cX4_isRange 22 = .ok (.ldc 184, 2) := by decide +kernel
theorem dX4_isRange_24 : decode cX4_isRange 24 = .ok (.if_icmp .gt 7, 3) := by decide +kernel
theorem dX4_isRange_27 : decode cX4_isRange 27 = .ok (.iconst 1, 1) := by decide +kernel
theorem dX4_isRange_28 : decode cX4_isRange 28 = .ok (.goto 4, 3) := by decide +kernel
theorem dX4_isRange_31 : decode cX4_isRange 31 = .ok (.iconst 0, 1) := by decide +kernel
theorem dX4_isRange_32 : decode cX4_isRange 32 = .ok (.ireturn, 1) := by decide +kernel
theorem dX4_areToJoin_0 : decode cX4_areToJoin 0 = .ok (.aload_n 0, 1) := by decide +kernel
theorem dX4_areToJoin_1 : decode cX4_areToJoin 1 = .ok (.aload_n 1, 1) := by decide +kernel
theorem dX4_areToJoin_2 : decode cX4_areToJoin 2 = .ok (.if_acmp .eq 18, 3) := by decide +kernel
theorem dX4_areToJoin_5 : decode cX4_areToJoin 5 = .ok (.aload_n 0, 1) := by decide +kernel
theorem dX4_areToJoin_6 : decode cX4_areToJoin 6 = .ok (.getfield 62, 3) := by decide +kernel
theorem dX4_areToJoin_9 : decode cX4_areToJoin 9 = .ok (.aload_n 1, 1) := by decide +kernel
theorem dX4_areToJoin_10 : decode cX4_areToJoin 10 = .ok (.getfield 62, 3) := by decide +kernel
theorem dX4_areToJoin_13 : decode cX4_areToJoin 13 = .ok (.if_icmp .ne 7, 3) := by decide +kernel
theorem dX4_areToJoin_16 : decode cX4_areToJoin 16 = .ok (.iconst 1, 1) := by decide +kernel
theorem dX4_areToJoin_17 : decode cX4_areToJoin 17 = .ok (.goto 4, 3) := by decide +kernel
theorem dX4_areToJoin_20 : decode cX4_areToJoin 20 = .ok (.iconst 0, 1) := by decide +kernel
theorem dX4_areToJoin_21 : decode cX4_areToJoin 21 = .ok (.ireturn, 1) := by decide +kernel
theorem dX4_isToFold_0 : decode cX4_isToFold 0 = .ok (.aload_n 0, 1) := by decide +kernel
theorem dX4_isToFold_1 : decode cX4_isToFold 1 = .ok (.getfield 62, 3) := by decide +kernel
theorem dX4_isToFold_4 : decode cX4_isToFold 4 = .ok (.iconst 2, 1) := by decide +kernel
theorem dX4_isToFold_5 : decode cX4_isToFold 5 = .ok (.if_icmp .le 7, 3) := by decide +kernel
theorem dX4_isToFold_8 : decode cX4_isToFold 8 = .ok (.iconst 1, 1) := by decide +kernel
theorem dX4_isToFold_9 : decode cX4_isToFold 9 = .ok (.goto 4, 3) := by decide +kernel
theorem dX4_isToFold_12 : decode cX4_isToFold 12 = .ok (.iconst 0, 1) := by decide +kernel
theorem dX4_isToFold_13 : decode cX4_isToFold 13 = .ok (.ireturn, 1) := by decide +kernel
theorem dX4_hashOf_0 : decode cX4_hashOf 0 = .ok (.iload_n 0, 1) := by decide +kernel
theorem dX4_hashOf_1 : decode cX4_hashOf 1 = .ok (.ldc 224, 2) := by decide +kernel
theorem dX4_hashOf_3 : decode cX4_hashOf 3 = .ok (.imul, 1) := by decide +kernel
theorem dX4_hashOf_4 : decode cX4_hashOf 4 = .ok (.iload_n 1, 1) := by decide +kernel
theorem dX4_hashOf_5 : decode cX4_hashOf 5 = .ok (.iadd, 1) := by decide +kernel
theorem dX4_hashOf_6 : decode cX4_hashOf 6 = .ok (.ldc 225, 2) := by decide +kernel
theorem dX4_hashOf_8 : decode cX4_hashOf 8 = .ok (.iand, 1) := by decide +kernel
theorem dX4_hashOf_9 : decode cX4_hashOf 9 = .ok (.istore_n 2, 1) := by decide +kernel
theorem dX4_hashOf_10 : decode cX4_hashOf 10 = .ok (.iload_n 2, 1) := by decide +kernel
theorem dX4_hashOf_11 : decode cX4_hashOf 11 = .ok (.iload_n 2, 1) := by decide +kernel
theorem dX4_hashOf_12 : decode cX4_hashOf 12 = .ok (.bipush 8, 2) := by decide +kernel
theorem dX4_hashOf_14 : decode cX4_hashOf 14 = .ok (.ishr, 1) := by decide +kernel
theorem dX4_hashOf_15 : decode cX4_hashOf 15 = .ok (.ixor, 1) := by decide +kernel
theorem dX4_hashOf_16 : decode cX4_hashOf 16 = .ok (.ireturn, 1) := by decide +kernel
set_option maxRecDepth 20000 in
theorem ggX4_takeThings_X4_hashOf : GoodIn wsX4_takeThings wsX4_hashOf := goodIn_r _ [5, 6, 7] (by decide +kernel) (by decide +kernel)
set_option maxRecDepth 20000 in
theorem gX4_takeThings_X4_hashOf : GoodIn wsX4_takeThings (va_wsS RX4 105 yX4_hashOf wsX4_hashOf) := goodIn_app (goodIn_of _ (by decide +kernel)) ggX4_takeThings_X4_hashOf
set_option maxRecDepth 20000 in
theorem ggX4_takeThings_X2_takeHash : GoodIn wsX4_takeThings wsX2_takeHash := goodIn_r _ [12, 13, 14, 15, 11, 16, 17, 18, 19, 20, 21, 22, 23, 24, 25, 26, 27, 28, 29, 30, 31, 32, 33, 34, 35, 36, 37, 38, 39, 40, 41, 65, 66, 67, 68, 69] (by decide +kernel) (by decide +kernel)
set_option maxRecDepth 20000 in
theorem gX4_takeThings_X2_takeHash : GoodIn wsX4_takeThings (wsV RX4 226 RX2 yX2_takeHash wsX2_takeHash) := goodIn_app (goodIn_of _ (by decide +kernel)) ggX4_takeThings_X2_takeHash
set_option maxRecDepth 20000 in
theorem ggX4_takeThings_X2_list : GoodIn wsX4_takeThings wsX2_list := goodIn_r _ [45, 46, 47, 48, 49, 50, 51, 11, 52, 53, 54, 55, 56, 65, 66, 67, 68, 69] (by decide +kernel) (by decide +kernel)
set_option maxRecDepth 20000 in
theorem gX4_takeThings_X2_list : GoodIn wsX4_takeThings (wsV RX4 229 RX2 yX2_list wsX2_list) := goodIn_app (goodIn_of _ (by decide +kernel)) ggX4_takeThings_X2_list
theorem dX4_takeThings_0 : decode cX4_takeThings 0 = .ok (.iconst 0, 1) := by decide +kernel
theorem dX4_takeThings_1 : decode cX4_takeThings 1 = .ok (.istore 4, 2) := by decide +kernel
theorem dX4_takeThings_3 : decode cX4_takeThings 3 = .ok (.iload_n 2, 1) := by decide +kernel
theorem dX4_takeThings_4 : decode cX4_takeThings 4 = .ok (.istore 5, 2) := by decide +kernel
theorem dX4_takeThings_6 : decode cX4_takeThings 6 = .ok (.iload 5, 2) := by decide +kernel
theorem dX4_takeThings_8 : decode cX4_takeThings 8 = .ok (.iload_n 2, 1) := by decide +kernel
theorem dX4_takeThings_9 : decode cX4_takeThings 9 = .ok (.iload_n 3, 1) := by decide +kernel
theorem dX4_takeThings_10 : decode cX4_takeThings 10 = .ok (.iadd, 1) := by decide +kernel
theorem dX4_takeThings_11 : decode cX4_takeThings 11 = .ok (.if_icmp .ge 37, 3) := by decide +kernel
theorem dX4_takeThings_14 : decode cX4_takeThings 14 = .ok (.aload_n 1, 1) := by decide +kernel
theorem dX4_takeThings_15 : decode cX4_takeThings 15 = .ok (.iload 5, 2) := by decide +kernel
theorem dX4_takeThings_17 : decode cX4_takeThings 17 = .ok (.aload_n 0, 1) := by decide +kernel
theorem dX4_takeThings_18 : decode cX4_takeThings 18 = .ok (.getfield 10, 3) := by decide +kernel
theorem dX4_takeThings_21 : decode cX4_takeThings 21 = .ok (.getfield 50, 3) := by decide +kernel
theorem dX4_takeThings_24 : decode cX4_takeThings 24 = .ok (.invokestatic 105, 3) := by decide +kernel
theorem dX4_takeThings_27 : decode cX4_takeThings 27 = .ok (.invokevirtual 226, 3) := by decide +kernel
theorem dX4_takeThings_30 : decode cX4_takeThings 30 = .ok (.ifCond .eq 6, 3) := by decide +kernel
theorem dX4_takeThings_33 : decode cX4_takeThings 33 = .ok (.iinc 4 1, 3) := by decide +kernel
theorem dX4_takeThings_36 : decode cX4_takeThings 36 = .ok (.aload_n 1, 1) := by decide +kernel
theorem dX4_takeThings_37 : decode cX4_takeThings 37 = .ok (.iload 5, 2) := by decide +kernel
theorem dX4_takeThings_39 : decode cX4_takeThings 39 = .ok (.invokevirtual 229, 3) := by decide +kernel
theorem dX4_takeThings_42 : decode cX4_takeThings 42 = .ok (.iinc 5 1, 3) := by decide +kernel
theorem dX4_takeThings_45 : decode cX4_takeThings 45 = .ok (.goto (-39), 3) := by decide +kernel
theorem dX4_takeThings_48 : decode cX4_takeThings 48 = .ok (.iload 4, 2) := by decide +kernel
theorem dX4_takeThings_50 : decode cX4_takeThings 50 = .ok (.ireturn, 1) := by decide +kernel
set_option maxRecDepth 20000 in
theorem ggX4_distanceBySalt_X2_startAgain : GoodIn wsX4_distanceBySalt wsX2_startAgain := goodIn_r _ [10, 11, 12, 13, 14, 15, 16, 17, 18, 106, 107, 108, 109, 110] (by decide +kernel) (by decide +kernel)
set_option maxRecDepth 20000 in
theorem gX4_distanceBySalt_X2_startAgain : GoodIn wsX4_distanceBySalt (wsV RX4 65 RX2 yX2_startAgain wsX2_startAgain) := goodIn_app (goodIn_of _ (by decide +kernel)) ggX4_distanceBySalt_X2_startAgain
set_option maxRecDepth 20000 in
theorem ggX4_distanceBySalt_X2_thingAt : GoodIn wsX4_distanceBySalt wsX2_thingAt := goodIn_r _ [22, 23, 24, 25, 26, 9, 27, 13, 106, 107, 108, 109, 110] (by decide +kernel) (by decide +kernel)
set_option maxRecDepth 20000 in
theorem gX4_distanceBySalt_X2_thingAt : GoodIn wsX4_distanceBySalt (wsV RX4 158 RX2 yX2_thingAt wsX2_thingAt) := goodIn_app (goodIn_of _ (by decide +kernel)) ggX4_distanceBySalt_X2_thingAt
set_option maxRecDepth 20000 in
theorem ggX4_distanceBySalt_X4_hashOf : GoodIn wsX4_distanceBySalt wsX4_hashOf := goodIn_r _ [31, 32, 33] (by decide +kernel) (by decide +kernel)
set_option maxRecDepth 20000 in
theorem gX4_distanceBySalt_X4_hashOf : GoodIn wsX4_distanceBySalt (va_wsS RX4 105 yX4_hashOf wsX4_hashOf) := goodIn_app (goodIn_of _ (by decide +kernel)) ggX4_distanceBySalt_X4_hashOf
set_option maxRecDepth 20000 in
theorem ggX4_distanceBySalt_X2_takeHash : GoodIn wsX4_distanceBySalt wsX2_takeHash := goodIn_r _ [37, 38, 39, 40, 9, 41, 42, 43, 44, 45, 11, 46, 47, 48, 49, 50, 51, 52, 53, 54, 55, 56, 57, 58, 59, 60, 12, 61, 62, 63, 64, 106, 107, 108, 109, 110] (by decide +kernel) (by decide +kernel)
set_option maxRecDepth 20000 in
theorem gX4_distanceBySalt_X2_takeHash : GoodIn wsX4_distanceBySalt (wsV RX4 226 RX2 yX2_takeHash wsX2_takeHash) := goodIn_app (goodIn_of _ (by decide +kernel)) ggX4_distanceBySalt_X2_takeHash
set_option maxRecDepth 20000 in
theorem ggX4_distanceBySalt_X2_estimate : GoodIn wsX4_distanceBySalt wsX2_estimate := goodIn_r _ [68, 69, 70, 71, 9, 72, 73, 74, 75, 76, 77, 78, 79, 80, 42, 43, 44, 45, 11, 81, 82, 83, 84, 12, 61, 62, 63, 64, 85, 86, 87, 88, 89, 90, 91, 92, 93, 94, 95, 96, 97, 98, 4, 99, 106, 107, 108, 109, 110] (by decide +kernel) (by decide +kernel)
set_option maxRecDepth 20000 in
theorem gX4_distanceBySalt_X2_estimate : GoodIn wsX4_distanceBySalt (wsV RX4 88 RX2 yX2_estimate wsX2_estimate) := goodIn_app (goodIn_of _ (by decide +kernel)) ggX4_distanceBySalt_X2_estimate
theorem dX4_distanceBySalt_0 : decode cX4_distanceBySalt 0 = .ok (.aload_n 0, 1) := by decide +kernel
theorem dX4_distanceBySalt_1 : decode cX4_distanceBySalt 1 = .ok (.getfield 41, 3) := by decide +kernel
theorem dX4_distanceBySalt_4 : decode cX4_distanceBySalt 4 = .ok (.aload_n 1, 1) := by decide +kernel
theorem dX4_distanceBySalt_5 : decode cX4_distanceBySalt 5 = .ok (.getfield 62, 3) := by decide +kernel
theorem dX4_distanceBySalt_8 : decode cX4_distanceBySalt 8 = .ok (.invokevirtual 65, 3) := by decide +kernel
theorem dX4_distanceBySalt_11 : decode cX4_distanceBySalt 11 = .ok (.iconst 0, 1) := by decide +kernel
theorem dX4_distanceBySalt_12 : decode cX4_distanceBySalt 12 = .ok (.istore_n 3, 1) := by decide +kernel
theorem dX4_distanceBySalt_13 : decode cX4_distanceBySalt 13 = .ok (.iload_n 3, 1) := by decide +kernel
theorem dX4_distanceBySalt_14 : decode cX4_distanceBySalt 14 = .ok (.aload_n 1, 1) := by decide +kernel
theorem dX4_distanceBySalt_15 : decode cX4_distanceBySalt 15 = .ok (.getfield 144, 3) := by decide +kernel
theorem dX4_distanceBySalt_18 : decode cX4_distanceBySalt 18 = .ok (.if_icmp .ge 26, 3) := by decide +kernel
theorem dX4_distanceBySalt_21 : decode cX4_distanceBySalt 21 = .ok (.aload_n 0, 1) := by decide +kernel
theorem dX4_distanceBySalt_22 : decode cX4_distanceBySalt 22 = .ok (.getfield 41, 3) := by decide +kernel
theorem dX4_distanceBySalt_25 : decode cX4_distanceBySalt 25 = .ok (.aload_n 1, 1) := by decide +kernel
theorem dX4_distanceBySalt_26 : decode cX4_distanceBySalt 26 = .ok (.iload_n 3, 1) := by decide +kernel
theorem dX4_distanceBySalt_27 : decode cX4_distanceBySalt 27 = .ok (.invokevirtual 158, 3) := by decide +kernel
theorem dX4_distanceBySalt_30 : decode cX4_distanceBySalt 30 = .ok (.iload_n 2, 1) := by decide +kernel
theorem dX4_distanceBySalt_31 : decode cX4_distanceBySalt 31 = .ok (.invokestatic 105, 3) := by decide +kernel
theorem dX4_distanceBySalt_34 : decode cX4_distanceBySalt 34 = .ok (.invokevirtual 226, 3) := by decide +kernel
theorem dX4_distanceBySalt_37 : decode cX4_distanceBySalt 37 = .ok (.pop, 1) := by decide +kernel
theorem dX4_distanceBySalt_38 : decode cX4_distanceBySalt 38 = .ok (.iinc 3 1, 3) := by decide +kernel
theorem dX4_distanceBySalt_41 : decode cX4_distanceBySalt 41 = .ok (.goto (-28), 3) := by decide +kernel
theorem dX4_distanceBySalt_44 : decode cX4_distanceBySalt 44 = .ok (.aload_n 0, 1) := by decide +kernel
theorem dX4_distanceBySalt_45 : decode cX4_distanceBySalt 45 = .ok (.getfield 41, 3) := by decide +kernel
theorem dX4_distanceBySalt_48 : decode cX4_distanceBySalt 48 = .ok (.invokevirtual 88, 3) := by decide +kernel
theorem dX4_distanceBySalt_51 : decode cX4_distanceBySalt 51 = .ok (.aload_n 1, 1) := by decide +kernel
theorem dX4_distanceBySalt_52 : decode cX4_distanceBySalt 52 = .ok (.getfield 144, 3) := by decide +kernel
theorem dX4_distanceBySalt_55 : decode cX4_distanceBySalt 55 = .ok (.isub, 1) := by decide +kernel
theorem dX4_distanceBySalt_56 : decode cX4_distanceBySalt 56 = .ok (.invokestatic 232, 3) := by decide +kernel
theorem dX4_distanceBySalt_59 : decode cX4_distanceBySalt 59 = .ok (.ireturn, 1) := by decide +kernel
theorem dX4_bitsOfShare_0 : decode cX4_bitsOfShare 0 = .ok (.iload_n 0, 1) := by decide +kernel
theorem dX4_bitsOfShare_1 : decode cX4_bitsOfShare 1 = .ok (.ifCond .gt 5, 3) := by decide +kernel
theorem dX4_bitsOfShare_4 : decode cX4_bitsOfShare 4 = .ok (.iconst 0, 1) := by decide +kernel
theorem dX4_bitsOfShare_5 : decode cX4_bitsOfShare 5 = .ok (.ireturn, 1) := by decide +kernel
theorem dX4_bitsOfShare_6 : decode cX4_bitsOfShare 6 = .ok (.iconst 0, 1) := by decide +kernel
theorem dX4_bitsOfShare_7 : decode cX4_bitsOfShare 7 = .ok (.istore_n 2, 1) := by decide +kernel
theorem dX4_bitsOfShare_8 : decode cX4_bitsOfShare 8 = .ok (.iconst 1, 1) := by decide +kernel
theorem dX4_bitsOfShare_9 : decode cX4_bitsOfShare 9 = .ok (.istore_n 3, 1) := by decide +kernel
theorem dX4_bitsOfShare_10 : decode cX4_bitsOfShare 10 = .ok (.iload_n 3, 1) := by decide +kernel
theorem dX4_bitsOfShare_11 : decode cX4_bitsOfShare 11 = .ok (.bipush 6, 2) := by decide +kernel
theorem dX4_bitsOfShare_13 : decode cX4_bitsOfShare 13 = .ok (.if_icmp .gt 17, 3) := by decide +kernel
theorem dX4_bitsOfShare_16 : decode cX4_bitsOfShare 16 = .ok (.iload_n 0, 1) := by decide +kernel
theorem dX4_bitsOfShare_17 : decode cX4_bitsOfShare 17 = .ok (.iload_n 3, 1) := by decide +kernel
theorem dX4_bitsOfShare_18 : decode cX4_bitsOfShare 18 = .ok (.ishr, 1) := by decide +kernel
theorem dX4_bitsOfShare_19 : decode cX4_bitsOfShare 19 = .ok (.ifCond .eq 5, 3) := by decide +kernel
theorem dX4_bitsOfShare_22 : decode cX4_bitsOfShare 22 = .ok (.iload_n 3, 1) := by decide +kernel
theorem dX4_bitsOfShare_23 : decode cX4_bitsOfShare 23 = .ok (.istore_n 2, 1) := by decide +kernel
theorem dX4_bitsOfShare_24 : decode cX4_bitsOfShare 24 = .ok (.iinc 3 1, 3) := by decide +kernel
theorem dX4_bitsOfShare_27 : decode cX4_bitsOfShare 27 = .ok (.goto (-17), 3) := by decide +kernel
theorem dX4_bitsOfShare_30 : decode cX4_bitsOfShare 30 = .ok (.bipush 127, 2) := by decide +kernel
theorem dX4_bitsOfShare_32 : decode cX4_bitsOfShare 32 = .ok (.iload_n 2, 1) := by decide +kernel
theorem dX4_bitsOfShare_33 : decode cX4_bitsOfShare 33 = .ok (.iadd, 1) := by decide +kernel
theorem dX4_bitsOfShare_34 : decode cX4_bitsOfShare 34 = .ok (.iload_n 1, 1) := by decide +kernel
theorem dX4_bitsOfShare_35 : decode cX4_bitsOfShare 35 = .ok (.isub, 1) := by decide +kernel
theorem dX4_bitsOfShare_36 : decode cX4_bitsOfShare 36 = .ok (.istore_n 3, 1) := by decide +kernel
theorem dX4_bitsOfShare_37 : decode cX4_bitsOfShare 37 = .ok (.iload_n 0, 1) := by decide +kernel
theorem dX4_bitsOfShare_38 : decode cX4_bitsOfShare 38 = .ok (.bipush 23, 2) := by decide +kernel
theorem dX4_bitsOfShare_40 : decode cX4_bitsOfShare 40 = .ok (.iload_n 2, 1) := by decide +kernel
theorem dX4_bitsOfShare_41 : decode cX4_bitsOfShare 41 = .ok (.isub, 1) := by decide +kernel
theorem dX4_bitsOfShare_42 : decode cX4_bitsOfShare 42 = .ok (.ishl, 1) := by decide +kernel
theorem dX4_bitsOfShare_43 : decode cX4_bitsOfShare 43 = .ok (.ldc 237, 2) := by decide +kernel
theorem dX4_bitsOfShare_45 : decode cX4_bitsOfShare 45 = .ok (.iand, 1) := by decide +kernel
theorem dX4_bitsOfShare_46 : decode cX4_bitsOfShare 46 = .ok (.istore 4, 2) := by decide +kernel
theorem dX4_bitsOfShare_48 : decode cX4_bitsOfShare 48 = .ok (.iload_n 3, 1) := by decide +kernel
theorem dX4_bitsOfShare_49 : decode cX4_bitsOfShare 49 = .ok (.bipush 23, 2) := by decide +kernel
theorem dX4_bitsOfShare_51 : decode cX4_bitsOfShare 51 = .ok (.ishl, 1) := by decide +kernel
theorem dX4_bitsOfShare_52 : decode cX4_bitsOfShare 52 = .ok (.iload 4, 2) := by decide +kernel
theorem dX4_bitsOfShare_54 : decode cX4_bitsOfShare 54 = .ok (.ior, 1) := by decide +kernel
theorem dX4_bitsOfShare_55 : decode cX4_bitsOfShare 55 = .ok (.ireturn, 1) := by decide +kernel
theorem dX4_charactersIn_0 : decode cX4_charactersIn 0 = .ok (.iconst 0, 1) := by decide +kernel
theorem dX4_charactersIn_1 : decode cX4_charactersIn 1 = .ok (.istore_n 2, 1) := by decide +kernel
theorem dX4_charactersIn_2 : decode cX4_charactersIn 2 = .ok (.iconst 0, 1) := by decide +kernel
theorem dX4_charactersIn_3 : decode cX4_charactersIn 3 = .ok (.istore_n 3, 1) := by decide +kernel
theorem dX4_charactersIn_4 : decode cX4_charactersIn 4 = .ok (.iload_n 3, 1) := by decide +kernel
theorem dX4_charactersIn_5 : decode cX4_charactersIn 5 = .ok (.bipush 64, 2) := by decide +kernel
theorem dX4_charactersIn_7 : decode cX4_charactersIn 7 = .ok (.if_icmp .ge 51, 3) := by decide +kernel
theorem dX4_charactersIn_10 : decode cX4_charactersIn 10 = .ok (.lload_n 0, 1) := by decide +kernel
theorem dX4_charactersIn_11 : decode cX4_charactersIn 11 = .ok (.iload_n 3, 1) := by decide +kernel
theorem dX4_charactersIn_12 : decode cX4_charactersIn 12 = .ok (.lushr, 1) := by decide +kernel
theorem dX4_charactersIn_13 : decode cX4_charactersIn 13 = .ok (.lstore 4, 2) := by decide +kernel
theorem dX4_charactersIn_15 : decode cX4_charactersIn 15 = .ok (.lload 4, 2) := by decide +kernel
theorem dX4_charactersIn_17 : decode cX4_charactersIn 17 = .ok (.lconst 0, 1) := by decide +kernel
theorem dX4_charactersIn_18 : decode cX4_charactersIn 18 = .ok (.lcmp, 1) := by decide +kernel
theorem dX4_charactersIn_19 : decode cX4_charactersIn 19 = .ok (.ifCond .ne 5, 3) := by decide +kernel
theorem dX4_charactersIn_22 : decode cX4_charactersIn 22 = .ok (.iload_n 2, 1) := by decide +kernel
theorem dX4_charactersIn_23 : decode cX4_charactersIn 23 = .ok (.ireturn, 1) := by decide +kernel
theorem dX4_charactersIn_24 : decode cX4_charactersIn 24 = .ok (.lload 4, 2) := by decide +kernel
theorem dX4_charactersIn_26 : decode cX4_charactersIn 26 = .ok (.ldc2_w 193, 3) := by decide +kernel
theorem dX4_charactersIn_29 : decode cX4_charactersIn 29 = .ok (.land, 1) := by decide +kernel
theorem dX4_charactersIn_30 : decode cX4_charactersIn 30 = .ok (.l2i, 1) := by decide +kernel
theorem dX4_charactersIn_31 : decode cX4_charactersIn 31 = .ok (.istore 6, 2) := by decide +kernel
theorem dX4_charactersIn_33 : decode cX4_charactersIn 33 = .ok (.iload 6, 2) := by decide +kernel
theorem dX4_charactersIn_35 : decode cX4_charactersIn 35 = .ok (.bipush 33, 2) := by decide +kernel
theorem dX4_charactersIn_37 : decode cX4_charactersIn 37 = .ok (.if_icmp .lt 10, 3) := by decide +kernel
theorem dX4_charactersIn_40 : decode cX4_charactersIn 40 = .ok (.iload 6, 2) := by decide +kernel
theorem dX4_charactersIn_42 : decode cX4_charactersIn 42 = .ok (.bipush 126, 2) := by decide +kernel
theorem dX4_charactersIn_44 : decode cX4_charactersIn 44 = .ok (.if_icmp .le 5, 3) := by decide +kernel
theorem dX4_charactersIn_47 : decode cX4_charactersIn 47 = .ok (.iconst 0, 1) := by decide +kernel
theorem dX4_charactersIn_48 : decode cX4_charactersIn 48 = .ok (.ireturn, 1) := by decide +kernel
theorem dX4_charactersIn_49 : decode cX4_charactersIn 49 = .ok (.iinc 2 1, 3) := by decide +kernel
theorem dX4_charactersIn_52 : decode cX4_charactersIn 52 = .ok (.iinc 3 8, 3) := by decide +kernel
theorem dX4_charactersIn_55 : decode cX4_charactersIn 55 = .ok (.goto (-51), 3) := by decide +kernel
theorem dX4_charactersIn_58 : decode cX4_charactersIn 58 = .ok (.iload_n 2, 1) := by decide +kernel
theorem dX4_charactersIn_59 : decode cX4_charactersIn 59 = .ok (.ireturn, 1) := by decide +kernel
set_option maxRecDepth 20000 in
theorem ggX4_carryOrderOut_X3_sketchAt : GoodIn wsX4_carryOrderOut wsX3_sketchAt := goodIn_r _ [7, 8, 154, 155] (by decide +kernel) (by decide +kernel)
set_option maxRecDepth 20000 in
theorem gX4_carryOrderOut_X3_sketchAt : GoodIn wsX4_carryOrderOut (wsV RX4 58 RX3 yX3_sketchAt wsX3_sketchAt) := goodIn_app (goodIn_of _ (by decide +kernel)) ggX4_carryOrderOut_X3_sketchAt
set_option maxRecDepth 20000 in
theorem ggX4_carryOrderOut_X4_carryThingsOut : GoodIn wsX4_carryOrderOut wsX4_carryThingsOut := goodIn_r _ [13, 2, 14, 15, 16, 17, 18, 19, 20, 21, 22, 23, 12, 24, 1, 25, 26, 27, 28, 29, 30, 31, 32, 33, 34, 35, 36, 37, 38, 39, 40, 41, 42, 43, 44, 45, 46, 47, 48, 49, 50, 51, 52, 53, 54, 55, 56, 57, 58, 59, 60, 61, 62, 63, 64, 65, 66, 67, 68, 69, 70, 71, 72, 73, 74, 75, 76, 77, 78, 136, 137, 138, 139, 140, 141, 142, 143, 144, 145, 146, 147, 148, 154, 155, 149, 150, 151, 152, 153] (by decide +kernel) (by decide +kernel)
set_option maxRecDepth 20000 in
theorem gX4_carryOrderOut_X4_carryThingsOut : GoodIn wsX4_carryOrderOut (wsV RX4 244 RX4 yX4_carryThingsOut wsX4_carryThingsOut) := goodIn_app (goodIn_of _ (by decide +kernel)) ggX4_carryOrderOut_X4_carryThingsOut
set_option maxRecDepth 20000 in
theorem ggX4_carryOrderOut_X4_carryJoinOut : GoodIn wsX4_carryOrderOut wsX4_carryJoinOut := goodIn_r _ [82, 1, 2, 14, 15, 16, 17, 18, 19, 20, 3, 4, 5, 6, 7, 8, 83, 84, 12, 85, 86, 87, 88, 33, 89, 68, 69, 39, 40, 41, 42, 43, 90, 91, 92, 93, 59, 60, 61, 62, 63, 55, 56, 57, 58, 75, 76, 77, 78, 94, 95, 96, 97, 70, 98, 99, 100, 101, 102, 65, 66, 67, 71, 72, 73, 74, 136, 137, 138, 139, 140, 141, 142, 143, 144, 145, 146, 147, 148, 154, 155, 149, 150, 151, 152, 153] (by decide +kernel) (by decide +kernel)
set_option maxRecDepth 20000 in
theorem gX4_carryOrderOut_X4_carryJoinOut : GoodIn wsX4_carryOrderOut (wsV RX4 247 RX4 yX4_carryJoinOut wsX4_carryJoinOut) := goodIn_app (goodIn_of _ (by decide +kernel)) ggX4_carryOrderOut_X4_carryJoinOut
set_option maxRecDepth 20000 in
theorem ggX4_carryOrderOut_X4_carryRangeOut : GoodIn wsX4_carryOrderOut wsX4_carryRangeOut := goodIn_r _ [106, 2, 14, 15, 16, 17, 18, 19, 20, 107, 108, 12, 109, 110, 111, 112, 113, 21, 22, 23, 24, 1, 25, 26, 27, 28, 29, 30, 31, 32, 33, 34, 35, 36, 37, 38, 39, 40, 41, 42, 43, 44, 45, 46, 47, 48, 49, 50, 51, 52, 53, 54, 55, 56, 57, 58, 59, 60, 61, 62, 63, 64, 65, 66, 67, 68, 69, 70, 71, 72, 73, 74, 75, 76, 77, 78, 136, 137, 138, 139, 140, 141, 142, 143, 144, 145, 146, 147, 148, 154, 155, 149, 150, 151, 152, 153] (by decide +kernel) (by decide +kernel)
set_option maxRecDepth 20000 in
theorem gX4_carryOrderOut_X4_carryRangeOut : GoodIn wsX4_carryOrderOut (wsV RX4 250 RX4 yX4_carryRangeOut wsX4_carryRangeOut) := goodIn_app (goodIn_of _ (by decide +kernel)) ggX4_carryOrderOut_X4_carryRangeOut
set_option maxRecDepth 20000 in
theorem ggX4_carryOrderOut_X4_carryFoldOut : GoodIn wsX4_carryOrderOut wsX4_carryFoldOut := goodIn_r _ [116, 117, 118, 12, 119, 120, 121, 122, 33, 123, 59, 124, 125, 126, 127, 43, 39, 40, 41, 42, 90, 91, 92, 93, 60, 61, 62, 63, 149, 150, 151, 152, 153] (by decide +kernel) (by decide +kernel)
set_option maxRecDepth 20000 in
theorem gX4_carryOrderOut_X4_carryFoldOut : GoodIn wsX4_carryOrderOut (va_wsS RX4 253 yX4_carryFoldOut wsX4_carryFoldOut) := goodIn_app (goodIn_of _ (by decide +kernel)) ggX4_carryOrderOut_X4_carryFoldOut
set_option maxRecDepth 20000 in
theorem ggX4_carryOrderOut_X2_startAgain : GoodIn wsX4_carryOrderOut wsX2_startAgain := goodIn_r _ [131, 43, 59, 69, 68, 132, 133, 134, 135, 149, 150, 151, 152, 153] (by decide +kernel) (by decide +kernel)
set_option maxRecDepth 20000 in
theorem gX4_carryOrderOut_X2_startAgain : GoodIn wsX4_carryOrderOut (wsV RX4 65 RX2 yX2_startAgain wsX2_startAgain) := goodIn_app (goodIn_of _ (by decide +kernel)) ggX4_carryOrderOut_X2_startAgain
