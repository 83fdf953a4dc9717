theorem dX0_init_0 : decode cX0_init 0 = .ok (.aload_n 0, 1) := by decide +kernel
theorem dX0_init_1 : decode cX0_init 1 = .ok (.invokespecial 3, 3) := by decide +kernel
theorem dX0_init_4 : decode cX0_init 4 = .ok (.aload_n 0, 1) := by decide +kernel
theorem dX0_init_5 : decode cX0_init 5 = .ok (.bipush 6, 2) := by decide +kernel
theorem dX0_init_7 : decode cX0_init 7 = .ok (.anewarray 9, 3) := by decide +kernel
theorem dX0_init_10 : decode cX0_init 10 = .ok (.putfield 11, 3) := by decide +kernel
theorem dX0_init_13 : decode cX0_init 13 = .ok (.aload_n 0, 1) := by decide +kernel
theorem dX0_init_14 : decode cX0_init 14 = .ok (.iconst 0, 1) := by decide +kernel
theorem dX0_init_15 : decode cX0_init 15 = .ok (.putfield 17, 3) := by decide +kernel
theorem dX0_init_18 : decode cX0_init 18 = .ok (.aload_n 0, 1) := by decide +kernel
theorem dX0_init_19 : decode cX0_init 19 = .ok (.iconst 0, 1) := by decide +kernel
theorem dX0_init_20 : decode cX0_init 20 = .ok (.putfield 21, 3) := by decide +kernel
theorem dX0_init_23 : decode cX0_init 23 = .ok (.iconst 0, 1) := by decide +kernel
theorem dX0_init_24 : decode cX0_init 24 = .ok (.istore_n 1, 1) := by decide +kernel
theorem dX0_init_25 : decode cX0_init 25 = .ok (.iload_n 1, 1) := by decide +kernel
theorem dX0_init_26 : decode cX0_init 26 = .ok (.bipush 6, 2) := by decide +kernel
theorem dX0_init_28 : decode cX0_init 28 = .ok (.if_icmp .ge 22, 3) := by decide +kernel
theorem dX0_init_31 : decode cX0_init 31 = .ok (.aload_n 0, 1) := by decide +kernel
theorem dX0_init_32 : decode cX0_init 32 = .ok (.getfield 11, 3) := by decide +kernel
theorem dX0_init_35 : decode cX0_init 35 = .ok (.iload_n 1, 1) := by decide +kernel
theorem dX0_init_36 : decode cX0_init 36 = .ok (.new 9, 3) := by decide +kernel
theorem dX0_init_39 : decode cX0_init 39 = .ok (.dup, 1) := by decide +kernel
theorem dX0_init_40 : decode cX0_init 40 = .ok (.invokespecial 24, 3) := by decide +kernel
theorem dX0_init_43 : decode cX0_init 43 = .ok (.aastore, 1) := by decide +kernel
theorem dX0_init_44 : decode cX0_init 44 = .ok (.iinc 1 1, 3) := by decide +kernel
theorem dX0_init_47 : decode cX0_init 47 = .ok (.goto (-22), 3) := by decide +kernel
theorem dX0_init_50 : decode cX0_init 50 = .ok (.return_, 1) := by decide +kernel
set_option maxRecDepth 20000 in
theorem ggX0_record_J9_floorMod_7cf53 : GoodIn wsX0_record wsJ9_floorMod_7cf53 := goodIn_r _ [7] (by decide +kernel) (by decide +kernel)
set_option maxRecDepth 20000 in
theorem gX0_record_J9_floorMod_7cf53 : GoodIn wsX0_record (va_wsS RX0 25 yJ9_floorMod_7cf53 wsJ9_floorMod_7cf53) := goodIn_app (goodIn_of _ (by decide +kernel)) ggX0_record_J9_floorMod_7cf53
set_option maxRecDepth 20000 in
theorem ggX0_record_X3_copyFrom : GoodIn wsX0_record wsX3_copyFrom := goodIn_r _ [12, 13, 14, 15, 16, 17, 18, 19, 20, 21, 22, 23, 24, 25, 26, 27, 28, 32, 33, 34, 35, 36, 37, 38] (by decide +kernel) (by decide +kernel)
set_option maxRecDepth 20000 in
theorem gX0_record_X3_copyFrom : GoodIn wsX0_record (wsV RX0 31 RX3 yX3_copyFrom wsX3_copyFrom) := goodIn_app (goodIn_of _ (by decide +kernel)) ggX0_record_X3_copyFrom
theorem dX0_record_0 : decode cX0_record 0 = .ok (.aload_n 0, 1) := by decide +kernel
theorem dX0_record_1 : decode cX0_record 1 = .ok (.getfield 21, 3) := by decide +kernel
theorem dX0_record_4 : decode cX0_record 4 = .ok (.bipush 6, 2) := by decide +kernel
theorem dX0_record_6 : decode cX0_record 6 = .ok (.if_icmp .ne 26, 3) := by decide +kernel
theorem dX0_record_9 : decode cX0_record 9 = .ok (.aload_n 0, 1) := by decide +kernel
theorem dX0_record_10 : decode cX0_record 10 = .ok (.aload_n 0, 1) := by decide +kernel
theorem dX0_record_11 : decode cX0_record 11 = .ok (.getfield 17, 3) := by decide +kernel
theorem dX0_record_14 : decode cX0_record 14 = .ok (.iconst 1, 1) := by decide +kernel
theorem dX0_record_15 : decode cX0_record 15 = .ok (.iadd, 1) := by decide +kernel
theorem dX0_record_16 : decode cX0_record 16 = .ok (.bipush 6, 2) := by decide +kernel
theorem dX0_record_18 : decode cX0_record 18 = .ok (.irem, 1) := by decide +kernel
theorem dX0_record_19 : decode cX0_record 19 = .ok (.putfield 17, 3) := by decide +kernel
theorem dX0_record_22 : decode cX0_record 22 = .ok (.aload_n 0, 1) := by decide +kernel
theorem dX0_record_23 : decode cX0_record 23 = .ok (.dup, 1) := by decide +kernel
theorem dX0_record_24 : decode cX0_record 24 = .ok (.getfield 21, 3) := by decide +kernel
theorem dX0_record_27 : decode cX0_record 27 = .ok (.iconst 1, 1) := by decide +kernel
theorem dX0_record_28 : decode cX0_record 28 = .ok (.isub, 1) := by decide +kernel
theorem dX0_record_29 : decode cX0_record 29 = .ok (.putfield 21, 3) := by decide +kernel
theorem dX0_record_32 : decode cX0_record 32 = .ok (.aload_n 0, 1) := by decide +kernel
theorem dX0_record_33 : decode cX0_record 33 = .ok (.getfield 11, 3) := by decide +kernel
theorem dX0_record_36 : decode cX0_record 36 = .ok (.aload_n 0, 1) := by decide +kernel
theorem dX0_record_37 : decode cX0_record 37 = .ok (.getfield 17, 3) := by decide +kernel
theorem dX0_record_40 : decode cX0_record 40 = .ok (.aload_n 0, 1) := by decide +kernel
theorem dX0_record_41 : decode cX0_record 41 = .ok (.getfield 21, 3) := by decide +kernel
theorem dX0_record_44 : decode cX0_record 44 = .ok (.iadd, 1) := by decide +kernel
theorem dX0_record_45 : decode cX0_record 45 = .ok (.bipush 6, 2) := by decide +kernel
theorem dX0_record_47 : decode cX0_record 47 = .ok (.invokestatic 25, 3) := by decide +kernel
theorem dX0_record_50 : decode cX0_record 50 = .ok (.aaload, 1) := by decide +kernel
theorem dX0_record_51 : decode cX0_record 51 = .ok (.aload_n 1, 1) := by decide +kernel
theorem dX0_record_52 : decode cX0_record 52 = .ok (.invokevirtual 31, 3) := by decide +kernel
theorem dX0_record_55 : decode cX0_record 55 = .ok (.aload_n 0, 1) := by decide +kernel
theorem dX0_record_56 : decode cX0_record 56 = .ok (.dup, 1) := by decide +kernel
theorem dX0_record_57 : decode cX0_record 57 = .ok (.getfield 21, 3) := by decide +kernel
theorem dX0_record_60 : decode cX0_record 60 = .ok (.iconst 1, 1) := by decide +kernel
theorem dX0_record_61 : decode cX0_record 61 = .ok (.iadd, 1) := by decide +kernel
theorem dX0_record_62 : decode cX0_record 62 = .ok (.putfield 21, 3) := by decide +kernel
theorem dX0_record_65 : decode cX0_record 65 = .ok (.return_, 1) := by decide +kernel
set_option maxRecDepth 20000 in
theorem ggX0_takeBack_J9_floorMod_7cf53 : GoodIn wsX0_takeBack wsJ9_floorMod_7cf53 := goodIn_r _ [7] (by decide +kernel) (by decide +kernel)
set_option maxRecDepth 20000 in
theorem gX0_takeBack_J9_floorMod_7cf53 : GoodIn wsX0_takeBack (va_wsS RX0 25 yJ9_floorMod_7cf53 wsJ9_floorMod_7cf53) := goodIn_app (goodIn_of _ (by decide +kernel)) ggX0_takeBack_J9_floorMod_7cf53
set_option maxRecDepth 20000 in
theorem ggX0_takeBack_X3_copyFrom : GoodIn wsX0_takeBack wsX3_copyFrom := goodIn_r _ [12, 13, 14, 15, 16, 17, 18, 19, 20, 21, 22, 23, 24, 25, 26, 27, 28, 32, 33, 34, 35, 36, 37, 38] (by decide +kernel) (by decide +kernel)
set_option maxRecDepth 20000 in
theorem gX0_takeBack_X3_copyFrom : GoodIn wsX0_takeBack (wsV RX0 31 RX3 yX3_copyFrom wsX3_copyFrom) := goodIn_app (goodIn_of _ (by decide +kernel)) ggX0_takeBack_X3_copyFrom
theorem dX0_takeBack_0 : decode cX0_takeBack 0 = .ok (.aload_n 0, 1) := by decide +kernel
theorem dX0_takeBack_1 : decode cX0_takeBack 1 = .ok (.getfield 21, 3) := by decide +kernel
theorem dX0_takeBack_4 : decode cX0_takeBack 4 = .ok (.ifCond .gt 4, 3) := by decide +kernel
theorem dX0_takeBack_7 : decode cX0_takeBack 7 = .ok (.return_, 1) := by decide +kernel
theorem dX0_takeBack_8 : decode cX0_takeBack 8 = .ok (.aload_n 0, 1) := by decide +kernel
theorem dX0_takeBack_9 : decode cX0_takeBack 9 = .ok (.dup, 1) := by decide +kernel
theorem dX0_takeBack_10 : decode cX0_takeBack 10 = .ok (.getfield 21, 3) := by decide +kernel
theorem dX0_takeBack_13 : decode cX0_takeBack 13 = .ok (.iconst 1, 1) := by decide +kernel
theorem dX0_takeBack_14 : decode cX0_takeBack 14 = .ok (.isub, 1) := by decide +kernel
theorem dX0_takeBack_15 : decode cX0_takeBack 15 = .ok (.putfield 21, 3) := by decide +kernel
theorem dX0_takeBack_18 : decode cX0_takeBack 18 = .ok (.aload_n 1, 1) := by decide +kernel
theorem dX0_takeBack_19 : decode cX0_takeBack 19 = .ok (.aload_n 0, 1) := by decide +kernel
theorem dX0_takeBack_20 : decode cX0_takeBack 20 = .ok (.getfield 11, 3) := by decide +kernel
theorem dX0_takeBack_23 : decode cX0_takeBack 23 = .ok (.aload_n 0, 1) := by decide +kernel
theorem dX0_takeBack_24 : decode cX0_takeBack 24 = .ok (.getfield 17, 3) := by decide +kernel
theorem dX0_takeBack_27 : decode cX0_takeBack 27 = .ok (.aload_n 0, 1) := by decide +kernel
theorem dX0_takeBack_28 : decode cX0_takeBack 28 = .ok (.getfield 21, 3) := by decide +kernel
theorem dX0_takeBack_31 : decode cX0_takeBack 31 = .ok (.iadd, 1) := by decide +kernel
theorem dX0_takeBack_32 : decode cX0_takeBack 32 = .ok (.bipush 6, 2) := by decide +kernel
theorem dX0_takeBack_34 : decode cX0_takeBack 34 = .ok (.invokestatic 25, 3) := by decide +kernel
theorem dX0_takeBack_37 : decode cX0_takeBack 37 = .ok (.aaload, 1) := by decide +kernel
theorem dX0_takeBack_38 : decode cX0_takeBack 38 = .ok (.invokevirtual 31, 3) := by decide +kernel
theorem dX0_takeBack_41 : decode cX0_takeBack 41 = .ok (.return_, 1) := by decide +kernel
theorem dX1_init_0 : decode cX1_init 0 = .ok (.aload_n 0, 1) := by decide +kernel
theorem dX1_init_1 : decode cX1_init 1 = .ok (.invokespecial 3, 3) := by decide +kernel
theorem dX1_init_4 : decode cX1_init 4 = .ok (.aload_n 0, 1) := by decide +kernel
theorem dX1_init_5 : decode cX1_init 5 = .ok (.bipush 80, 2) := by decide +kernel
theorem dX1_init_7 : decode cX1_init 7 = .ok (.newarray .char, 2) := by decide +kernel
theorem dX1_init_9 : decode cX1_init 9 = .ok (.putfield 9, 3) := by decide +kernel
theorem dX1_init_12 : decode cX1_init 12 = .ok (.aload_n 0, 1) := by decide +kernel
theorem dX1_init_13 : decode cX1_init 13 = .ok (.iconst 0, 1) := by decide +kernel
theorem dX1_init_14 : decode cX1_init 14 = .ok (.putfield 15, 3) := by decide +kernel
theorem dX1_init_17 : decode cX1_init 17 = .ok (.aload_n 0, 1) := by decide +kernel
theorem dX1_init_18 : decode cX1_init 18 = .ok (.iconst 0, 1) := by decide +kernel
theorem dX1_init_19 : decode cX1_init 19 = .ok (.putfield 19, 3) := by decide +kernel
theorem dX1_init_22 : decode cX1_init 22 = .ok (.aload_n 0, 1) := by decide +kernel
theorem dX1_init_23 : decode cX1_init 23 = .ok (.iconst 0, 1) := by decide +kernel
theorem dX1_init_24 : decode cX1_init 24 = .ok (.putfield 22, 3) := by decide +kernel
theorem dX1_init_27 : decode cX1_init 27 = .ok (.aload_n 0, 1) := by decide +kernel
theorem dX1_init_28 : decode cX1_init 28 = .ok (.bipush 33, 2) := by decide +kernel
theorem dX1_init_30 : decode cX1_init 30 = .ok (.putfield 25, 3) := by decide +kernel
theorem dX1_init_33 : decode cX1_init 33 = .ok (.aload_n 0, 1) := by decide +kernel
theorem dX1_init_34 : decode cX1_init 34 = .ok (.bipush 80, 2) := by decide +kernel
theorem dX1_init_36 : decode cX1_init 36 = .ok (.newarray .int, 2) := by decide +kernel
theorem dX1_init_38 : decode cX1_init 38 = .ok (.putfield 28, 3) := by decide +kernel
theorem dX1_init_41 : decode cX1_init 41 = .ok (.aload_n 0, 1) := by decide +kernel
theorem dX1_init_42 : decode cX1_init 42 = .ok (.iconst 0, 1) := by decide +kernel
theorem dX1_init_43 : decode cX1_init 43 = .ok (.putfield 32, 3) := by decide +kernel
theorem dX1_init_46 : decode cX1_init 46 = .ok (.return_, 1) := by decide +kernel
theorem dX1_append_0 : decode cX1_append 0 = .ok (.aload_n 0, 1) := by decide +kernel
theorem dX1_append_1 : decode cX1_append 1 = .ok (.getfield 15, 3) := by decide +kernel
theorem dX1_append_4 : decode cX1_append 4 = .ok (.aload_n 0, 1) := by decide +kernel
theorem dX1_append_5 : decode cX1_append 5 = .ok (.getfield 9, 3) := by decide +kernel
theorem dX1_append_8 : decode cX1_append 8 = .ok (.arraylength, 1) := by decide +kernel
theorem dX1_append_9 : decode cX1_append 9 = .ok (.if_icmp .ge 23, 3) := by decide +kernel
theorem dX1_append_12 : decode cX1_append 12 = .ok (.aload_n 0, 1) := by decide +kernel
theorem dX1_append_13 : decode cX1_append 13 = .ok (.getfield 9, 3) := by decide +kernel
theorem dX1_append_16 : decode cX1_append 16 = .ok (.aload_n 0, 1) := by decide +kernel
theorem dX1_append_17 : decode cX1_append 17 = .ok (.getfield 15, 3) := by decide +kernel
theorem dX1_append_20 : decode cX1_append 20 = .ok (.iload_n 1, 1) := by decide +kernel
theorem dX1_append_21 : decode cX1_append 21 = .ok (.castore, 1) := by decide +kernel
theorem dX1_append_22 : decode cX1_append 22 = .ok (.aload_n 0, 1) := by decide +kernel
theorem dX1_append_23 : decode cX1_append 23 = .ok (.dup, 1) := by decide +kernel
theorem dX1_append_24 : decode cX1_append 24 = .ok (.getfield 15, 3) := by decide +kernel
theorem dX1_append_27 : decode cX1_append 27 = .ok (.iconst 1, 1) := by decide +kernel
theorem dX1_append_28 : decode cX1_append 28 = .ok (.iadd, 1) := by decide +kernel
theorem dX1_append_29 : decode cX1_append 29 = .ok (.putfield 15, 3) := by decide +kernel
theorem dX1_append_32 : decode cX1_append 32 = .ok (.return_, 1) := by decide +kernel
theorem dX1_clear_0 : decode cX1_clear 0 = .ok (.aload_n 0, 1) := by decide +kernel
theorem dX1_clear_1 : decode cX1_clear 1 = .ok (.iconst 0, 1) := by decide +kernel
theorem dX1_clear_2 : decode cX1_clear 2 = .ok (.putfield 15, 3) := by decide +kernel
theorem dX1_clear_5 : decode cX1_clear 5 = .ok (.return_, 1) := by decide +kernel
theorem dX1_goToStart_0 : decode cX1_goToStart 0 = .ok (.aload_n 0, 1) := by decide +kernel
theorem dX1_goToStart_1 : decode cX1_goToStart 1 = .ok (.iconst 0, 1) := by decide +kernel
theorem dX1_goToStart_2 : decode cX1_goToStart 2 = .ok (.putfield 19, 3) := by decide +kernel
theorem dX1_goToStart_5 : decode cX1_goToStart 5 = .ok (.return_, 1) := by decide +kernel
set_option maxRecDepth 20000 in
theorem ggX1_faultPlace_X1_goToStart : GoodIn wsX1_faultPlace wsX1_goToStart := goodIn_r _ [7, 1, 50, 51, 52, 53, 54, 55, 56] (by decide +kernel) (by decide +kernel)
set_option maxRecDepth 20000 in
theorem gX1_faultPlace_X1_goToStart : GoodIn wsX1_faultPlace (wsV RX1 35 RX1 yX1_goToStart wsX1_goToStart) := goodIn_app (goodIn_of _ (by decide +kernel)) ggX1_faultPlace_X1_goToStart
set_option maxRecDepth 20000 in
theorem ggX1_faultPlace_X1_readOrder : GoodIn wsX1_faultPlace wsX1_readOrder := goodIn_r _ [11, 12, 13, 1, 14, 15, 16, 17, 6, 18, 19, 20, 21, 22, 23, 24, 25, 26, 2, 27, 28, 29, 30, 31, 32, 33, 34, 35, 36, 37, 38, 39, 40, 41, 42, 43, 44, 45, 46, 47, 48, 49, 50, 51, 52, 53, 54, 55, 56] (by decide +kernel) (by decide +kernel)
set_option maxRecDepth 20000 in
theorem gX1_faultPlace_X1_readOrder : GoodIn wsX1_faultPlace (wsV RX1 38 RX1 yX1_readOrder wsX1_readOrder) := goodIn_app (goodIn_of _ (by decide +kernel)) ggX1_faultPlace_X1_readOrder
set_option maxRecDepth 20000 in
theorem ggX1_faultPlace_X1_accept : GoodIn wsX1_faultPlace wsX1_accept := goodIn_r _ [45, 1, 23, 24, 25, 6, 26, 2, 27, 50, 51, 52, 53, 54, 55, 56] (by decide +kernel) (by decide +kernel)
set_option maxRecDepth 20000 in
theorem gX1_faultPlace_X1_accept : GoodIn wsX1_faultPlace (wsV RX1 42 RX1 yX1_accept wsX1_accept) := goodIn_app (goodIn_of _ (by decide +kernel)) ggX1_faultPlace_X1_accept
theorem dX1_faultPlace_0 : decode cX1_faultPlace 0 = .ok (.aload_n 0, 1) := by decide +kernel
theorem dX1_faultPlace_1 : decode cX1_faultPlace 1 = .ok (.invokevirtual 35, 3) := by decide +kernel
theorem dX1_faultPlace_4 : decode cX1_faultPlace 4 = .ok (.iconst 0, 1) := by decide +kernel
theorem dX1_faultPlace_5 : decode cX1_faultPlace 5 = .ok (.istore_n 1, 1) := by decide +kernel
theorem dX1_faultPlace_6 : decode cX1_faultPlace 6 = .ok (.iload_n 1, 1) := by decide +kernel
theorem dX1_faultPlace_7 : decode cX1_faultPlace 7 = .ok (.bipush 80, 2) := by decide +kernel
theorem dX1_faultPlace_9 : decode cX1_faultPlace 9 = .ok (.if_icmp .ge 51, 3) := by decide +kernel
theorem dX1_faultPlace_12 : decode cX1_faultPlace 12 = .ok (.aload_n 0, 1) := by decide +kernel
theorem dX1_faultPlace_13 : decode cX1_faultPlace 13 = .ok (.invokevirtual 38, 3) := by decide +kernel
theorem dX1_faultPlace_16 : decode cX1_faultPlace 16 = .ok (.ifCond .ne 8, 3) := by decide +kernel
theorem dX1_faultPlace_19 : decode cX1_faultPlace 19 = .ok (.aload_n 0, 1) := by decide +kernel
theorem dX1_faultPlace_20 : decode cX1_faultPlace 20 = .ok (.getfield 19, 3) := by decide +kernel
theorem dX1_faultPlace_23 : decode cX1_faultPlace 23 = .ok (.ireturn, 1) := by decide +kernel
theorem dX1_faultPlace_24 : decode cX1_faultPlace 24 = .ok (.aload_n 0, 1) := by decide +kernel
theorem dX1_faultPlace_25 : decode cX1_faultPlace 25 = .ok (.bipush 59, 2) := by decide +kernel
theorem dX1_faultPlace_27 : decode cX1_faultPlace 27 = .ok (.invokevirtual 42, 3) := by decide +kernel
theorem dX1_faultPlace_30 : decode cX1_faultPlace 30 = .ok (.ifCond .ne 24, 3) := by decide +kernel
theorem dX1_faultPlace_33 : decode cX1_faultPlace 33 = .ok (.aload_n 0, 1) := by decide +kernel
theorem dX1_faultPlace_34 : decode cX1_faultPlace 34 = .ok (.getfield 19, 3) := by decide +kernel
theorem dX1_faultPlace_37 : decode cX1_faultPlace 37 = .ok (.aload_n 0, 1) := by decide +kernel
theorem dX1_faultPlace_38 : decode cX1_faultPlace 38 = .ok (.getfield 15, 3) := by decide +kernel
theorem dX1_faultPlace_41 : decode cX1_faultPlace 41 = .ok (.if_icmp .ne 8, 3) := by decide +kernel
theorem dX1_faultPlace_44 : decode cX1_faultPlace 44 = .ok (.bipush (-6), 2) := by decide +kernel
theorem dX1_faultPlace_46 : decode cX1_faultPlace 46 = .ok (.goto 7, 3) := by decide +kernel
theorem dX1_faultPlace_49 : decode cX1_faultPlace 49 = .ok (.aload_n 0, 1) := by decide +kernel
theorem dX1_faultPlace_50 : decode cX1_faultPlace 50 = .ok (.getfield 19, 3) := by decide +kernel
theorem dX1_faultPlace_53 : decode cX1_faultPlace 53 = .ok (.ireturn, 1) := by decide +kernel
theorem dX1_faultPlace_54 : decode cX1_faultPlace 54 = .ok (.iinc 1 1, 3) := by decide +kernel
theorem dX1_faultPlace_57 : decode cX1_faultPlace 57 = .ok (.goto (-51), 3) := by decide +kernel
theorem dX1_faultPlace_60 : decode cX1_faultPlace 60 = .ok (.aload_n 0, 1) := by decide +kernel
theorem dX1_faultPlace_61 : decode cX1_faultPlace 61 = .ok (.getfield 19, 3) := by decide +kernel
theorem dX1_faultPlace_64 : decode cX1_faultPlace 64 = .ok (.ireturn, 1) := by decide +kernel
set_option maxRecDepth 20000 in
theorem ggX1_readOrder_X1_standsAtSketch : GoodIn wsX1_readOrder wsX1_standsAtSketch := goodIn_r _ [9, 10, 11, 12, 8, 13, 14, 15, 16, 17, 3, 18, 19, 42, 43, 44, 45, 46, 47, 48] (by decide +kernel) (by decide +kernel)
set_option maxRecDepth 20000 in
theorem gX1_readOrder_X1_standsAtSketch : GoodIn wsX1_readOrder (wsV RX1 46 RX1 yX1_standsAtSketch wsX1_standsAtSketch) := goodIn_app (goodIn_of _ (by decide +kernel)) ggX1_readOrder_X1_standsAtSketch
set_option maxRecDepth 20000 in
theorem ggX1_readOrder_X1_digit : GoodIn wsX1_readOrder wsX1_digit := goodIn_r _ [13, 14, 15, 16, 8, 17, 3, 18, 19, 42, 43, 44, 45, 46, 47, 48] (by decide +kernel) (by decide +kernel)
set_option maxRecDepth 20000 in
theorem gX1_readOrder_X1_digit : GoodIn wsX1_readOrder (wsV RX1 49 RX1 yX1_digit wsX1_digit) := goodIn_app (goodIn_of _ (by decide +kernel)) ggX1_readOrder_X1_digit
set_option maxRecDepth 20000 in
theorem ggX1_readOrder_X1_sign : GoodIn wsX1_readOrder wsX1_sign := goodIn_r _ [17, 3, 18, 19, 42, 43, 44, 45, 46, 47, 48] (by decide +kernel) (by decide +kernel)
set_option maxRecDepth 20000 in
theorem gX1_readOrder_X1_sign : GoodIn wsX1_readOrder (wsV RX1 53 RX1 yX1_sign wsX1_sign) := goodIn_app (goodIn_of _ (by decide +kernel)) ggX1_readOrder_X1_sign
set_option maxRecDepth 20000 in
theorem ggX1_readOrder_X1_readThings : GoodIn wsX1_readOrder wsX1_readThings := goodIn_r _ [23, 24, 25, 26, 8, 27, 3, 28, 10, 11, 12, 13, 14, 15, 16, 17, 18, 19, 29, 30, 31, 32, 1, 33, 34, 35, 36, 37, 42, 43, 44, 45, 46, 47, 48] (by decide +kernel) (by decide +kernel)
set_option maxRecDepth 20000 in
theorem gX1_readOrder_X1_readThings : GoodIn wsX1_readOrder (wsV RX1 57 RX1 yX1_readThings wsX1_readThings) := goodIn_app (goodIn_of _ (by decide +kernel)) ggX1_readOrder_X1_readThings
set_option maxRecDepth 20000 in
theorem ggX1_readOrder_X1_readOther : GoodIn wsX1_readOrder wsX1_readOther := goodIn_r _ [41, 3, 5, 6, 7, 8, 9, 10, 11, 12, 13, 14, 15, 16, 17, 18, 19, 29, 30, 31, 32, 1, 33, 42, 43, 44, 45, 46, 47, 48] (by decide +kernel) (by decide +kernel)
set_option maxRecDepth 20000 in
theorem gX1_readOrder_X1_readOther : GoodIn wsX1_readOrder (wsV RX1 60 RX1 yX1_readOther wsX1_readOther) := goodIn_app (goodIn_of _ (by decide +kernel)) ggX1_readOrder_X1_readOther
set_option maxRecDepth 20000 in
theorem ggX1_readOrder_X1_readNumber : GoodIn wsX1_readOrder wsX1_readNumber := goodIn_r _ [27, 3, 28, 10, 11, 12, 8, 13, 14, 15, 16, 17, 18, 19, 29, 30, 31, 32, 1, 33, 42, 43, 44, 45, 46, 47, 48] (by decide +kernel) (by decide +kernel)
set_option maxRecDepth 20000 in
theorem gX1_readOrder_X1_readNumber : GoodIn wsX1_readOrder (wsV RX1 63 RX1 yX1_readNumber wsX1_readNumber) := goodIn_app (goodIn_of _ (by decide +kernel)) ggX1_readOrder_X1_readNumber
set_option maxRecDepth 20000 in
theorem ggX1_readOrder_X1_accept : GoodIn wsX1_readOrder wsX1_accept := goodIn_r _ [37, 3, 14, 15, 16, 8, 17, 18, 19, 42, 43, 44, 45, 46, 47, 48] (by decide +kernel) (by decide +kernel)
set_option maxRecDepth 20000 in
theorem gX1_readOrder_X1_accept : GoodIn wsX1_readOrder (wsV RX1 42 RX1 yX1_accept wsX1_accept) := goodIn_app (goodIn_of _ (by decide +kernel)) ggX1_readOrder_X1_accept
theorem dX1_readOrder_0 : decode cX1_readOrder 0 = .ok (.aload_n 0, 1) := by decide +kernel
theorem dX1_readOrder_1 : decode cX1_readOrder 1 = .ok (.iconst 0, 1) := by decide +kernel
theorem dX1_readOrder_2 : decode cX1_readOrder 2 = .ok (.putfield 32, 3) := by decide +kernel
theorem dX1_readOrder_5 : decode cX1_readOrder 5 = .ok (.aload_n 0, 1) := by decide +kernel
theorem dX1_readOrder_6 : decode cX1_readOrder 6 = .ok (.invokevirtual 46, 3) := by decide +kernel
theorem dX1_readOrder_9 : decode cX1_readOrder 9 = .ok (.ifCond .ne 5, 3) := by decide +kernel
theorem dX1_readOrder_12 : decode cX1_readOrder 12 = .ok (.iconst 0, 1) := by decide +kernel
theorem dX1_readOrder_13 : decode cX1_readOrder 13 = .ok (.ireturn, 1) := by decide +kernel
theorem dX1_readOrder_14 : decode cX1_readOrder 14 = .ok (.aload_n 0, 1) := by decide +kernel
theorem dX1_readOrder_15 : decode cX1_readOrder 15 = .ok (.aload_n 0, 1) := by decide +kernel
theorem dX1_readOrder_16 : decode cX1_readOrder 16 = .ok (.invokevirtual 49, 3) := by decide +kernel
theorem dX1_readOrder_19 : decode cX1_readOrder 19 = .ok (.putfield 22, 3) := by decide +kernel
theorem dX1_readOrder_22 : decode cX1_readOrder 22 = .ok (.aload_n 0, 1) := by decide +kernel
theorem dX1_readOrder_23 : decode cX1_readOrder 23 = .ok (.dup, 1) := by decide +kernel
theorem dX1_readOrder_24 : decode cX1_readOrder 24 = .ok (.getfield 19, 3) := by decide +kernel
theorem dX1_readOrder_27 : decode cX1_readOrder 27 = .ok (.iconst 1, 1) := by decide +kernel
theorem dX1_readOrder_28 : decode cX1_readOrder 28 = .ok (.iadd, 1) := by decide +kernel
theorem dX1_readOrder_29 : decode cX1_readOrder 29 = .ok (.putfield 19, 3) := by decide +kernel
theorem dX1_readOrder_32 : decode cX1_readOrder 32 = .ok (.aload_n 0, 1) := by decide +kernel
theorem dX1_readOrder_33 : decode cX1_readOrder 33 = .ok (.aload_n 0, 1) := by decide +kernel
theorem dX1_readOrder_34 : decode cX1_readOrder 34 = .ok (.invokevirtual 53, 3) := by decide +kernel
theorem dX1_readOrder_37 : decode cX1_readOrder 37 = .ok (.putfield 25, 3) := by decide +kernel
theorem dX1_readOrder_40 : decode cX1_readOrder 40 = .ok (.aload_n 0, 1) := by decide +kernel
theorem dX1_readOrder_41 : decode cX1_readOrder 41 = .ok (.getfield 25, 3) := by decide +kernel
theorem dX1_readOrder_44 : decode cX1_readOrder 44 = .ok (.lookupswitch 133 #[(33, 121), (38, 67), (42, 82), (47, 121), (58, 52)], 52) := by decide +kernel
theorem dX1_readOrder_96 : decode cX1_readOrder 96 = .ok (.aload_n 0, 1) := by decide +kernel
theorem dX1_readOrder_97 : decode cX1_readOrder 97 = .ok (.dup, 1) := by decide +kernel
theorem dX1_readOrder_98 : decode cX1_readOrder 98 = .ok (.getfield 19, 3) := by decide +kernel
theorem dX1_readOrder_101 : decode cX1_readOrder 101 = .ok (.iconst 1, 1) := by decide +kernel
theorem dX1_readOrder_102 : decode cX1_readOrder 102 = .ok (.iadd, 1) := by decide +kernel
theorem dX1_readOrder_103 : decode cX1_readOrder 103 = .ok (.putfield 19, 3) := by decide +kernel
theorem dX1_readOrder_106 : decode cX1_readOrder 106 = .ok (.aload_n 0, 1) := by decide +kernel
theorem dX1_readOrder_107 : decode cX1_readOrder 107 = .ok (.invokevirtual 57, 3) := by decide +kernel
theorem dX1_readOrder_110 : decode cX1_readOrder 110 = .ok (.ireturn, 1) := by decide +kernel
theorem dX1_readOrder_111 : decode cX1_readOrder 111 = .ok (.aload_n 0, 1) := by decide +kernel
theorem dX1_readOrder_112 : decode cX1_readOrder 112 = .ok (.dup, 1) := by decide +kernel
theorem dX1_readOrder_113 : decode cX1_readOrder 113 = .ok (.getfield 19, 3) := by decide +kernel
theorem dX1_readOrder_116 : decode cX1_readOrder 116 = .ok (.iconst 1, 1) := by decide +kernel
theorem dX1_readOrder_117 : decode cX1_readOrder 117 = .ok (.iadd, 1) := by decide +kernel
theorem dX1_readOrder_118 : decode cX1_readOrder 118 = .ok (.putfield 19, 3) := by decide +kernel
theorem dX1_readOrder_121 : decode cX1_readOrder 121 = .ok (.aload_n 0, 1) := by decide +kernel
theorem dX1_readOrder_122 : decode cX1_readOrder 122 = .ok (.invokevirtual 60, 3) := by decide +kernel
theorem dX1_readOrder_125 : decode cX1_readOrder 125 = .ok (.ireturn, 1) := by decide +kernel
theorem dX1_readOrder_126 : decode cX1_readOrder 126 = .ok (.aload_n 0, 1) := by decide +kernel
theorem dX1_readOrder_127 : decode cX1_readOrder 127 = .ok (.dup, 1) := by decide +kernel
theorem dX1_readOrder_128 : decode cX1_readOrder 128 = .ok (.getfield 19, 3) := by decide +kernel
theorem dX1_readOrder_131 : decode cX1_readOrder 131 = .ok (.iconst 1, 1) := by decide +kernel
theorem dX1_readOrder_132 : decode cX1_readOrder 132 = .ok (.iadd, 1) := by decide +kernel
theorem dX1_readOrder_133 : decode cX1_readOrder 133 = .ok (.putfield 19, 3) := by decide +kernel
theorem dX1_readOrder_136 : decode cX1_readOrder 136 = .ok (.aload_n 0, 1) := by decide +kernel
theorem dX1_readOrder_137 : decode cX1_readOrder 137 = .ok (.invokevirtual 63, 3) := by decide +kernel
theorem dX1_readOrder_140 : decode cX1_readOrder 140 = .ok (.ifCond .eq 23, 3) := by decide +kernel
theorem dX1_readOrder_143 : decode cX1_readOrder 143 = .ok (.aload_n 0, 1) := by decide +kernel
theorem dX1_readOrder_144 : decode cX1_readOrder 144 = .ok (.bipush 43, 2) := by decide +kernel
theorem dX1_readOrder_146 : decode cX1_readOrder 146 = .ok (.invokevirtual 42, 3) := by decide +kernel
theorem dX1_readOrder_149 : decode cX1_readOrder 149 = .ok (.ifCond .eq 14, 3) := by decide +kernel
theorem dX1_readOrder_152 : decode cX1_readOrder 152 = .ok (.aload_n 0, 1) := by decide +kernel
theorem dX1_readOrder_153 : decode cX1_readOrder 153 = .ok (.invokevirtual 63, 3) := by decide +kernel
theorem dX1_readOrder_156 : decode cX1_readOrder 156 = .ok (.ifCond .eq 7, 3) := by decide +kernel
theorem dX1_readOrder_159 : decode cX1_readOrder 159 = .ok (.iconst 1, 1) := by decide +kernel
theorem dX1_readOrder_160 : decode cX1_readOrder 160 = .ok (.goto 4, 3) := by decide +kernel
theorem dX1_readOrder_163 : decode cX1_readOrder 163 = .ok (.iconst 0, 1) := by decide +kernel
theorem dX1_readOrder_164 : decode cX1_readOrder 164 = .ok (.ireturn, 1) := by decide +kernel
theorem dX1_readOrder_165 : decode cX1_readOrder 165 = .ok (.aload_n 0, 1) := by decide +kernel
theorem dX1_readOrder_166 : decode cX1_readOrder 166 = .ok (.dup, 1) := by decide +kernel
theorem dX1_readOrder_167 : decode cX1_readOrder 167 = .ok (.getfield 19, 3) := by decide +kernel
theorem dX1_readOrder_170 : decode cX1_readOrder 170 = .ok (.iconst 1, 1) := by decide +kernel
theorem dX1_readOrder_171 : decode cX1_readOrder 171 = .ok (.iadd, 1) := by decide +kernel
theorem dX1_readOrder_172 : decode cX1_readOrder 172 = .ok (.putfield 19, 3) := by decide +kernel
theorem dX1_readOrder_175 : decode cX1_readOrder 175 = .ok (.iconst 1, 1) := by decide +kernel
theorem dX1_readOrder_176 : decode cX1_readOrder 176 = .ok (.ireturn, 1) := by decide +kernel
theorem dX1_readOrder_177 : decode cX1_readOrder 177 = .ok (.iconst 0, 1) := by decide +kernel
theorem dX1_readOrder_178 : decode cX1_readOrder 178 = .ok (.ireturn, 1) := by decide +kernel
set_option maxRecDepth 20000 in
theorem ggX1_accept_X1_sign : GoodIn wsX1_accept wsX1_sign := goodIn_r _ [6, 1, 7, 8, 9, 10, 11, 12, 13, 14, 15] (by decide +kernel) (by decide +kernel)
set_option maxRecDepth 20000 in
theorem gX1_accept_X1_sign : GoodIn wsX1_accept (wsV RX1 53 RX1 yX1_sign wsX1_sign) := goodIn_app (goodIn_of _ (by decide +kernel)) ggX1_accept_X1_sign
theorem dX1_accept_0 : decode cX1_accept 0 = .ok (.aload_n 0, 1) := by decide +kernel
theorem dX1_accept_1 : decode cX1_accept 1 = .ok (.invokevirtual 53, 3) := by decide +kernel
theorem dX1_accept_4 : decode cX1_accept 4 = .ok (.iload_n 1, 1) := by decide +kernel
theorem dX1_accept_5 : decode cX1_accept 5 = .ok (.if_icmp .eq 5, 3) := by decide +kernel
theorem dX1_accept_8 : decode cX1_accept 8 = .ok (.iconst 0, 1) := by decide +kernel
theorem dX1_accept_9 : decode cX1_accept 9 = .ok (.ireturn, 1) := by decide +kernel
theorem dX1_accept_10 : decode cX1_accept 10 = .ok (.aload_n 0, 1) := by decide +kernel
theorem dX1_accept_11 : decode cX1_accept 11 = .ok (.dup, 1) := by decide +kernel
theorem dX1_accept_12 : decode cX1_accept 12 = .ok (.getfield 19, 3) := by decide +kernel
theorem dX1_accept_15 : decode cX1_accept 15 = .ok (.iconst 1, 1) := by decide +kernel
theorem dX1_accept_16 : decode cX1_accept 16 = .ok (.iadd, 1) := by decide +kernel
theorem dX1_accept_17 : decode cX1_accept 17 = .ok (.putfield 19, 3) := by decide +kernel
theorem dX1_accept_20 : decode cX1_accept 20 = .ok (.iconst 1, 1) := by decide +kernel
theorem dX1_accept_21 : decode cX1_accept 21 = .ok (.ireturn, 1) := by decide +kernel
set_option maxRecDepth 20000 in
theorem ggX1_readThings_X1_readNumber : GoodIn wsX1_readThings wsX1_readNumber := goodIn_r _ [5, 6, 7, 8, 9, 10, 4, 11, 12, 13, 14, 15, 16, 17, 18, 19, 20, 21, 22, 23, 28, 29, 30, 31, 32, 33, 34] (by decide +kernel) (by decide +kernel)
set_option maxRecDepth 20000 in
theorem gX1_readThings_X1_readNumber : GoodIn wsX1_readThings (wsV RX1 63 RX1 yX1_readNumber wsX1_readNumber) := goodIn_app (goodIn_of _ (by decide +kernel)) ggX1_readThings_X1_readNumber
set_option maxRecDepth 20000 in
theorem ggX1_readThings_X1_accept : GoodIn wsX1_readThings wsX1_accept := goodIn_r _ [27, 6, 12, 13, 14, 4, 15, 16, 17, 28, 29, 30, 31, 32, 33, 34] (by decide +kernel) (by decide +kernel)
set_option maxRecDepth 20000 in
theorem gX1_readThings_X1_accept : GoodIn wsX1_readThings (wsV RX1 42 RX1 yX1_accept wsX1_accept) := goodIn_app (goodIn_of _ (by decide +kernel)) ggX1_readThings_X1_accept
theorem dX1_readThings_0 : decode cX1_readThings 0 = .ok (.iconst 0, 1) := by decide +kernel
theorem dX1_readThings_1 : decode cX1_readThings 1 = .ok (.istore_n 1, 1) := by decide +kernel
theorem dX1_readThings_2 : decode cX1_readThings 2 = .ok (.iload_n 1, 1) := by decide +kernel
theorem dX1_readThings_3 : decode cX1_readThings 3 = .ok (.bipush 80, 2) := by decide +kernel
theorem dX1_readThings_5 : decode cX1_readThings 5 = .ok (.if_icmp .ge 29, 3) := by decide +kernel
theorem dX1_readThings_8 : decode cX1_readThings 8 = .ok (.aload_n 0, 1) := by decide +kernel
theorem dX1_readThings_9 : decode cX1_readThings 9 = .ok (.invokevirtual 63, 3) := by decide +kernel
theorem dX1_readThings_12 : decode cX1_readThings 12 = .ok (.ifCond .ne 5, 3) := by decide +kernel
theorem dX1_readThings_15 : decode cX1_readThings 15 = .ok (.iconst 0, 1) := by decide +kernel
theorem dX1_readThings_16 : decode cX1_readThings 16 = .ok (.ireturn, 1) := by decide +kernel
theorem dX1_readThings_17 : decode cX1_readThings 17 = .ok (.aload_n 0, 1) := by decide +kernel
theorem dX1_readThings_18 : decode cX1_readThings 18 = .ok (.bipush 44, 2) := by decide +kernel
theorem dX1_readThings_20 : decode cX1_readThings 20 = .ok (.invokevirtual 42, 3) := by decide +kernel
theorem dX1_readThings_23 : decode cX1_readThings 23 = .ok (.ifCond .ne 5, 3) := by decide +kernel
theorem dX1_readThings_26 : decode cX1_readThings 26 = .ok (.iconst 1, 1) := by decide +kernel
theorem dX1_readThings_27 : decode cX1_readThings 27 = .ok (.ireturn, 1) := by decide +kernel
theorem dX1_readThings_28 : decode cX1_readThings 28 = .ok (.iinc 1 1, 3) := by decide +kernel
theorem dX1_readThings_31 : decode cX1_readThings 31 = .ok (.goto (-29), 3) := by decide +kernel
theorem dX1_readThings_34 : decode cX1_readThings 34 = .ok (.iconst 0, 1) := by decide +kernel
theorem dX1_readThings_35 : decode cX1_readThings 35 = .ok (.ireturn, 1) := by decide +kernel
set_option maxRecDepth 20000 in
theorem ggX1_readOther_X1_standsAtSketch : GoodIn wsX1_readOther wsX1_standsAtSketch := goodIn_r _ [6, 7, 8, 9, 5, 10, 11, 12, 13, 14, 1, 15, 16, 23, 24, 25, 26, 27, 28, 29] (by decide +kernel) (by decide +kernel)
set_option maxRecDepth 20000 in
theorem gX1_readOther_X1_standsAtSketch : GoodIn wsX1_readOther (wsV RX1 46 RX1 yX1_standsAtSketch wsX1_standsAtSketch) := goodIn_app (goodIn_of _ (by decide +kernel)) ggX1_readOther_X1_standsAtSketch
set_option maxRecDepth 20000 in
theorem ggX1_readOther_X1_digit : GoodIn wsX1_readOther wsX1_digit := goodIn_r _ [10, 11, 12, 13, 5, 14, 1, 15, 16, 23, 24, 25, 26, 27, 28, 29] (by decide +kernel) (by decide +kernel)
set_option maxRecDepth 20000 in
theorem gX1_readOther_X1_digit : GoodIn wsX1_readOther (wsV RX1 49 RX1 yX1_digit wsX1_digit) := goodIn_app (goodIn_of _ (by decide +kernel)) ggX1_readOther_X1_digit
set_option maxRecDepth 20000 in
theorem ggX1_readOther_X1_keepNumber : GoodIn wsX1_readOther wsX1_keepNumber := goodIn_r _ [20, 21, 22, 23, 24, 25, 26, 27, 28, 29] (by decide +kernel) (by decide +kernel)
set_option maxRecDepth 20000 in
theorem gX1_readOther_X1_keepNumber : GoodIn wsX1_readOther (wsV RX1 66 RX1 yX1_keepNumber wsX1_keepNumber) := goodIn_app (goodIn_of _ (by decide +kernel)) ggX1_readOther_X1_keepNumber
theorem dX1_readOther_0 : decode cX1_readOther 0 = .ok (.aload_n 0, 1) := by decide +kernel
theorem dX1_readOther_1 : decode cX1_readOther 1 = .ok (.invokevirtual 46, 3) := by decide +kernel
theorem dX1_readOther_4 : decode cX1_readOther 4 = .ok (.ifCond .ne 5, 3) := by decide +kernel
theorem dX1_readOther_7 : decode cX1_readOther 7 = .ok (.iconst 0, 1) := by decide +kernel
theorem dX1_readOther_8 : decode cX1_readOther 8 = .ok (.ireturn, 1) := by decide +kernel
theorem dX1_readOther_9 : decode cX1_readOther 9 = .ok (.aload_n 0, 1) := by decide +kernel
theorem dX1_readOther_10 : decode cX1_readOther 10 = .ok (.aload_n 0, 1) := by decide +kernel
theorem dX1_readOther_11 : decode cX1_readOther 11 = .ok (.invokevirtual 49, 3) := by decide +kernel
theorem dX1_readOther_14 : decode cX1_readOther 14 = .ok (.invokevirtual 66, 3) := by decide +kernel
theorem dX1_readOther_17 : decode cX1_readOther 17 = .ok (.aload_n 0, 1) := by decide +kernel
theorem dX1_readOther_18 : decode cX1_readOther 18 = .ok (.dup, 1) := by decide +kernel
theorem dX1_readOther_19 : decode cX1_readOther 19 = .ok (.getfield 19, 3) := by decide +kernel
theorem dX1_readOther_22 : decode cX1_readOther 22 = .ok (.iconst 1, 1) := by decide +kernel
theorem dX1_readOther_23 : decode cX1_readOther 23 = .ok (.iadd, 1) := by decide +kernel
theorem dX1_readOther_24 : decode cX1_readOther 24 = .ok (.putfield 19, 3) := by decide +kernel
theorem dX1_readOther_27 : decode cX1_readOther 27 = .ok (.iconst 1, 1) := by decide +kernel
theorem dX1_readOther_28 : decode cX1_readOther 28 = .ok (.ireturn, 1) := by decide +kernel
set_option maxRecDepth 20000 in
theorem ggX1_standsAtSketch_X1_digit : GoodIn wsX1_standsAtSketch wsX1_digit := goodIn_r _ [5, 6, 7, 8, 4, 9, 10, 11, 12, 13, 14, 15, 16, 17, 18, 19] (by decide +kernel) (by decide +kernel)
set_option maxRecDepth 20000 in
theorem gX1_standsAtSketch_X1_digit : GoodIn wsX1_standsAtSketch (wsV RX1 49 RX1 yX1_digit wsX1_digit) := goodIn_app (goodIn_of _ (by decide +kernel)) ggX1_standsAtSketch_X1_digit
theorem dX1_standsAtSketch_0 : decode cX1_standsAtSketch 0 = .ok (.aload_n 0, 1) := by decide +kernel
theorem dX1_standsAtSketch_1 : decode cX1_standsAtSketch 1 = .ok (.invokevirtual 49, 3) := by decide +kernel
theorem dX1_standsAtSketch_4 : decode cX1_standsAtSketch 4 = .ok (.istore_n 1, 1) := by decide +kernel
theorem dX1_standsAtSketch_5 : decode cX1_standsAtSketch 5 = .ok (.iload_n 1, 1) := by decide +kernel
theorem dX1_standsAtSketch_6 : decode cX1_standsAtSketch 6 = .ok (.ifCond .lt 13, 3) := by decide +kernel
theorem dX1_standsAtSketch_9 : decode cX1_standsAtSketch 9 = .ok (.iload_n 1, 1) := by decide +kernel
theorem dX1_standsAtSketch_10 : decode cX1_standsAtSketch 10 = .ok (.bipush 6, 2) := by decide +kernel
theorem dX1_standsAtSketch_12 : decode cX1_standsAtSketch 12 = .ok (.if_icmp .ge 7, 3) := by decide +kernel
theorem dX1_standsAtSketch_15 : decode cX1_standsAtSketch 15 = .ok (.iconst 1, 1) := by decide +kernel
theorem dX1_standsAtSketch_16 : decode cX1_standsAtSketch 16 = .ok (.goto 4, 3) := by decide +kernel
theorem dX1_standsAtSketch_19 : decode cX1_standsAtSketch 19 = .ok (.iconst 0, 1) := by decide +kernel
theorem dX1_standsAtSketch_20 : decode cX1_standsAtSketch 20 = .ok (.ireturn, 1) := by decide +kernel
set_option maxRecDepth 20000 in
theorem ggX1_readNumber_X1_digit : GoodIn wsX1_readNumber wsX1_digit := goodIn_r _ [7, 8, 9, 10, 6, 11, 1, 12, 13, 20, 21, 22, 23, 24, 25, 26] (by decide +kernel) (by decide +kernel)
set_option maxRecDepth 20000 in
theorem gX1_readNumber_X1_digit : GoodIn wsX1_readNumber (wsV RX1 49 RX1 yX1_digit wsX1_digit) := goodIn_app (goodIn_of _ (by decide +kernel)) ggX1_readNumber_X1_digit
set_option maxRecDepth 20000 in
theorem ggX1_readNumber_X1_keepNumber : GoodIn wsX1_readNumber wsX1_keepNumber := goodIn_r _ [17, 18, 19, 20, 21, 22, 23, 24, 25, 26] (by decide +kernel) (by decide +kernel)
set_option maxRecDepth 20000 in
theorem gX1_readNumber_X1_keepNumber : GoodIn wsX1_readNumber (wsV RX1 66 RX1 yX1_keepNumber wsX1_keepNumber) := goodIn_app (goodIn_of _ (by decide +kernel)) ggX1_readNumber_X1_keepNumber
theorem dX1_readNumber_0 : decode cX1_readNumber 0 = .ok (.aload_n 0, 1) := by decide +kernel
theorem dX1_readNumber_1 : decode cX1_readNumber 1 = .ok (.invokevirtual 49, 3) := by decide +kernel
theorem dX1_readNumber_4 : decode cX1_readNumber 4 = .ok (.istore_n 1, 1) := by decide +kernel
theorem dX1_readNumber_5 : decode cX1_readNumber 5 = .ok (.iload_n 1, 1) := by decide +kernel
theorem dX1_readNumber_6 : decode cX1_readNumber 6 = .ok (.ifCond .ge 5, 3) := by decide +kernel
theorem dX1_readNumber_9 : decode cX1_readNumber 9 = .ok (.iconst 0, 1) := by decide +kernel
theorem dX1_readNumber_10 : decode cX1_readNumber 10 = .ok (.ireturn, 1) := by decide +kernel
theorem dX1_readNumber_11 : decode cX1_readNumber 11 = .ok (.aload_n 0, 1) := by decide +kernel
theorem dX1_readNumber_12 : decode cX1_readNumber 12 = .ok (.dup, 1) := by decide +kernel
theorem dX1_readNumber_13 : decode cX1_readNumber 13 = .ok (.getfield 19, 3) := by decide +kernel
theorem dX1_readNumber_16 : decode cX1_readNumber 16 = .ok (.iconst 1, 1) := by decide +kernel
theorem dX1_readNumber_17 : decode cX1_readNumber 17 = .ok (.iadd, 1) := by decide +kernel
theorem dX1_readNumber_18 : decode cX1_readNumber 18 = .ok (.putfield 19, 3) := by decide +kernel
theorem dX1_readNumber_21 : decode cX1_readNumber 21 = .ok (.iconst 1, 1) := by decide +kernel
theorem dX1_readNumber_22 : decode cX1_readNumber 22 = .ok (.istore_n 2, 1) := by decide +kernel
theorem dX1_readNumber_23 : decode cX1_readNumber 23 = .ok (.iload_n 2, 1) := by decide +kernel
theorem dX1_readNumber_24 : decode cX1_readNumber 24 = .ok (.bipush 80, 2) := by decide +kernel
theorem dX1_readNumber_26 : decode cX1_readNumber 26 = .ok (.if_icmp .ge 51, 3) := by decide +kernel
theorem dX1_readNumber_29 : decode cX1_readNumber 29 = .ok (.iload_n 1, 1) := by decide +kernel
theorem dX1_readNumber_30 : decode cX1_readNumber 30 = .ok (.ifCond .le 47, 3) := by decide +kernel
theorem dX1_readNumber_33 : decode cX1_readNumber 33 = .ok (.aload_n 0, 1) := by decide +kernel
theorem dX1_readNumber_34 : decode cX1_readNumber 34 = .ok (.invokevirtual 49, 3) := by decide +kernel
theorem dX1_readNumber_37 : decode cX1_readNumber 37 = .ok (.ifCond .lt 40, 3) := by decide +kernel
theorem dX1_readNumber_40 : decode cX1_readNumber 40 = .ok (.iload_n 1, 1) := by decide +kernel
theorem dX1_readNumber_41 : decode cX1_readNumber 41 = .ok (.bipush 10, 2) := by decide +kernel
theorem dX1_readNumber_43 : decode cX1_readNumber 43 = .ok (.imul, 1) := by decide +kernel
theorem dX1_readNumber_44 : decode cX1_readNumber 44 = .ok (.aload_n 0, 1) := by decide +kernel
theorem dX1_readNumber_45 : decode cX1_readNumber 45 = .ok (.invokevirtual 49, 3) := by decide +kernel
theorem dX1_readNumber_48 : decode cX1_readNumber 48 = .ok (.iadd, 1) := by decide +kernel
theorem dX1_readNumber_49 : decode cX1_readNumber 49 = .ok (.istore_n 3, 1) := by decide +kernel
theorem dX1_readNumber_50 : decode cX1_readNumber 50 = .ok (.iload_n 3, 1) := by decide +kernel
theorem dX1_readNumber_51 : decode cX1_readNumber 51 = .ok (.ldc 70, 2) := by decide +kernel
theorem dX1_readNumber_53 : decode cX1_readNumber 53 = .ok (.if_icmp .lt 6, 3) := by decide +kernel
theorem dX1_readNumber_56 : decode cX1_readNumber 56 = .ok (.goto 21, 3) := by decide +kernel
theorem dX1_readNumber_59 : decode cX1_readNumber 59 = .ok (.iload_n 3, 1) := by decide +kernel
theorem dX1_readNumber_60 : decode cX1_readNumber 60 = .ok (.istore_n 1, 1) := by decide +kernel
theorem dX1_readNumber_61 : decode cX1_readNumber 61 = .ok (.aload_n 0, 1) := by decide +kernel
theorem dX1_readNumber_62 : decode cX1_readNumber 62 = .ok (.dup, 1) := by decide +kernel
theorem dX1_readNumber_63 : decode cX1_readNumber 63 = .ok (.getfield 19, 3) := by decide +kernel
theorem dX1_readNumber_66 : decode cX1_readNumber 66 = .ok (.iconst 1, 1) := by decide +kernel
theorem dX1_readNumber_67 : decode cX1_readNumber 67 = .ok (.iadd, 1) := by decide +kernel
theorem dX1_readNumber_68 : decode cX1_readNumber 68 = .ok (.putfield 19, 3) := by decide +kernel
theorem dX1_readNumber_71 : decode cX1_readNumber 71 = .ok (.iinc 2 1, 3) := by decide +kernel
theorem dX1_readNumber_74 : decode cX1_readNumber 74 = .ok (.goto (-51), 3) := by decide +kernel
theorem dX1_readNumber_77 : decode cX1_readNumber 77 = .ok (.aload_n 0, 1) := by decide +kernel
theorem dX1_readNumber_78 : decode cX1_readNumber 78 = .ok (.iload_n 1, 1) := by decide +kernel
theorem dX1_readNumber_79 : decode cX1_readNumber 79 = .ok (.invokevirtual 66, 3) := by decide +kernel
theorem dX1_readNumber_82 : decode cX1_readNumber 82 = .ok (.iconst 1, 1) := by decide +kernel
theorem dX1_readNumber_83 : decode cX1_readNumber 83 = .ok (.ireturn, 1) := by decide +kernel
set_option maxRecDepth 20000 in
theorem ggX1_digit_X1_sign : GoodIn wsX1_digit wsX1_sign := goodIn_r _ [5, 6, 7, 8, 9, 10, 11, 12, 13, 14, 15] (by decide +kernel) (by decide +kernel)
set_option maxRecDepth 20000 in
theorem gX1_digit_X1_sign : GoodIn wsX1_digit (wsV RX1 53 RX1 yX1_sign wsX1_sign) := goodIn_app (goodIn_of _ (by decide +kernel)) ggX1_digit_X1_sign
theorem dX1_digit_0 : decode cX1_digit 0 = .ok (.aload_n 0, 1) := by decide +kernel
theorem dX1_digit_1 : decode cX1_digit 1 = .ok (.invokevirtual 53, 3) := by decide +kernel
theorem dX1_digit_4 : decode cX1_digit 4 = .ok (.istore_n 1, 1) := by decide +kernel
theorem dX1_digit_5 : decode cX1_digit 5 = .ok (.iload_n 1, 1) := by decide +kernel
theorem dX1_digit_6 : decode cX1_digit 6 = .ok (.bipush 48, 2) := by decide +kernel
theorem dX1_digit_8 : decode cX1_digit 8 = .ok (.if_icmp .lt 16, 3) := by decide +kernel
theorem dX1_digit_11 : decode cX1_digit 11 = .ok (.iload_n 1, 1) := by decide +kernel
theorem dX1_digit_12 : decode cX1_digit 12 = .ok (.bipush 57, 2) := by decide +kernel
theorem dX1_digit_14 : decode cX1_digit 14 = .ok (.if_icmp .gt 10, 3) := by decide +kernel
theorem dX1_digit_17 : decode cX1_digit 17 = .ok (.iload_n 1, 1) := by decide +kernel
theorem dX1_digit_18 : decode cX1_digit 18 = .ok (.bipush 48, 2) := by decide +kernel
theorem dX1_digit_20 : decode cX1_digit 20 = .ok (.isub, 1) := by decide +kernel
theorem dX1_digit_21 : decode cX1_digit 21 = .ok (.goto 4, 3) := by decide +kernel
theorem dX1_digit_24 : decode cX1_digit 24 = .ok (.iconst (-1), 1) := by decide +kernel
theorem dX1_digit_25 : decode cX1_digit 25 = .ok (.ireturn, 1) := by decide +kernel
theorem dX1_sign_0 : decode cX1_sign 0 = .ok (.aload_n 0, 1) := by decide +kernel
theorem dX1_sign_1 : decode cX1_sign 1 = .ok (.getfield 19, 3) := by decide +kernel
theorem dX1_sign_4 : decode cX1_sign 4 = .ok (.ifCond .lt 38, 3) := by decide +kernel
theorem dX1_sign_7 : decode cX1_sign 7 = .ok (.aload_n 0, 1) := by decide +kernel
theorem dX1_sign_8 : decode cX1_sign 8 = .ok (.getfield 19, 3) := by decide +kernel
theorem dX1_sign_11 : decode cX1_sign 11 = .ok (.aload_n 0, 1) := by decide +kernel
theorem dX1_sign_12 : decode cX1_sign 12 = .ok (.getfield 15, 3) := by decide +kernel
theorem dX1_sign_15 : decode cX1_sign 15 = .ok (.if_icmp .ge 27, 3) := by decide +kernel
theorem dX1_sign_18 : decode cX1_sign 18 = .ok (.aload_n 0, 1) := by decide +kernel
theorem dX1_sign_19 : decode cX1_sign 19 = .ok (.getfield 19, 3) := by decide +kernel
theorem dX1_sign_22 : decode cX1_sign 22 = .ok (.aload_n 0, 1) := by decide +kernel
theorem dX1_sign_23 : decode cX1_sign 23 = .ok (.getfield 9, 3) := by decide +kernel
theorem dX1_sign_26 : decode cX1_sign 26 = .ok (.arraylength, 1) := by decide +kernel
theorem dX1_sign_27 : decode cX1_sign 27 = .ok (.if_icmp .ge 15, 3) := by decide +kernel
theorem dX1_sign_30 : decode cX1_sign 30 = .ok (.aload_n 0, 1) := by decide +kernel
theorem dX1_sign_31 : decode cX1_sign 31 = .ok (.getfield 9, 3) := by decide +kernel
theorem dX1_sign_34 : decode cX1_sign 34 = .ok (.aload_n 0, 1) := by decide +kernel
theorem dX1_sign_35 : decode cX1_sign 35 = .ok (.getfield 19, 3) := by decide +kernel
theorem dX1_sign_38 : decode cX1_sign 38 = .ok (.caload, 1) := by decide +kernel
theorem dX1_sign_39 : decode cX1_sign 39 = .ok (.goto 4, 3) := by decide +kernel
theorem dX1_sign_42 : decode cX1_sign 42 = .ok (.iconst 0, 1) := by decide +kernel
theorem dX1_sign_43 : decode cX1_sign 43 = .ok (.ireturn, 1) := by decide +kernel
theorem dX1_keepNumber_0 : decode cX1_keepNumber 0 = .ok (.aload_n 0, 1) := by decide +kernel
theorem dX1_keepNumber_1 : decode cX1_keepNumber 1 = .ok (.getfield 32, 3) := by decide +kernel
theorem dX1_keepNumber_4 : decode cX1_keepNumber 4 = .ok (.aload_n 0, 1) := by decide +kernel
theorem dX1_keepNumber_5 : decode cX1_keepNumber 5 = .ok (.getfield 28, 3) := by decide +kernel
theorem dX1_keepNumber_8 : decode cX1_keepNumber 8 = .ok (.arraylength, 1) := by decide +kernel
theorem dX1_keepNumber_9 : decode cX1_keepNumber 9 = .ok (.if_icmp .ge 23, 3) := by decide +kernel
theorem dX1_keepNumber_12 : decode cX1_keepNumber 12 = .ok (.aload_n 0, 1) := by decide +kernel
theorem dX1_keepNumber_13 : decode cX1_keepNumber 13 = .ok (.getfield 28, 3) := by decide +kernel
theorem dX1_keepNumber_16 : decode cX1_keepNumber 16 = .ok (.aload_n 0, 1) := by decide +kernel
theorem dX1_keepNumber_17 : decode cX1_keepNumber 17 = .ok (.getfield 32, 3) := by decide +kernel
theorem dX1_keepNumber_20 : decode cX1_keepNumber 20 = .ok (.iload_n 1, 1) := by decide +kernel
theorem dX1_keepNumber_21 : decode cX1_keepNumber 21 = .ok (.iastore, 1) := by decide +kernel
theorem dX1_keepNumber_22 : decode cX1_keepNumber 22 = .ok (.aload_n 0, 1) := by decide +kernel
theorem dX1_keepNumber_23 : decode cX1_keepNumber 23 = .ok (.dup, 1) := by decide +kernel
theorem dX1_keepNumber_24 : decode cX1_keepNumber 24 = .ok (.getfield 32, 3) := by decide +kernel
theorem dX1_keepNumber_27 : decode cX1_keepNumber 27 = .ok (.iconst 1, 1) := by decide +kernel
theorem dX1_keepNumber_28 : decode cX1_keepNumber 28 = .ok (.iadd, 1) := by decide +kernel
theorem dX1_keepNumber_29 : decode cX1_keepNumber 29 = .ok (.putfield 32, 3) := by decide +kernel
theorem dX1_keepNumber_32 : decode cX1_keepNumber 32 = .ok (.return_, 1) := by decide +kernel
theorem dX1_numberAt_0 : decode cX1_numberAt 0 = .ok (.iload_n 1, 1) := by decide +kernel
theorem dX1_numberAt_1 : decode cX1_numberAt 1 = .ok (.ifCond .lt 29, 3) := by decide +kernel
theorem dX1_numberAt_4 : decode cX1_numberAt 4 = .ok (.iload_n 1, 1) := by decide +kernel
theorem dX1_numberAt_5 : decode cX1_numberAt 5 = .ok (.aload_n 0, 1) := by decide +kernel
theorem dX1_numberAt_6 : decode cX1_numberAt 6 = .ok (.getfield 32, 3) := by decide +kernel
theorem dX1_numberAt_9 : decode cX1_numberAt 9 = .ok (.if_icmp .ge 21, 3) := by decide +kernel
theorem dX1_numberAt_12 : decode cX1_numberAt 12 = .ok (.iload_n 1, 1) := by decide +kernel
theorem dX1_numberAt_13 : decode cX1_numberAt 13 = .ok (.aload_n 0, 1) := by decide +kernel
theorem dX1_numberAt_14 : decode cX1_numberAt 14 = .ok (.getfield 28, 3) := by decide +kernel
theorem dX1_numberAt_17 : decode cX1_numberAt 17 = .ok (.arraylength, 1) := by decide +kernel
theorem dX1_numberAt_18 : decode cX1_numberAt 18 = .ok (.if_icmp .ge 12, 3) := by decide +kernel
theorem dX1_numberAt_21 : decode cX1_numberAt 21 = .ok (.aload_n 0, 1) := by decide +kernel
theorem dX1_numberAt_22 : decode cX1_numberAt 22 = .ok (.getfield 28, 3) := by decide +kernel
theorem dX1_numberAt_25 : decode cX1_numberAt 25 = .ok (.iload_n 1, 1) := by decide +kernel
theorem dX1_numberAt_26 : decode cX1_numberAt 26 = .ok (.iaload, 1) := by decide +kernel
theorem dX1_numberAt_27 : decode cX1_numberAt 27 = .ok (.goto 4, 3) := by decide +kernel
theorem dX1_numberAt_30 : decode cX1_numberAt 30 = .ok (.iconst 0, 1) := by decide +kernel
theorem dX1_numberAt_31 : decode cX1_numberAt 31 = .ok (.ireturn, 1) := by decide +kernel
theorem dX2_init_0 : decode cX2_init 0 = .ok (.aload_n 0, 1) := by decide +kernel
theorem dX2_init_1 : decode cX2_init 1 = .ok (.invokespecial 3, 3) := by decide +kernel
theorem dX2_init_4 : decode cX2_init 4 = .ok (.aload_n 0, 1) := by decide +kernel
theorem dX2_init_5 : decode cX2_init 5 = .ok (.iconst 4, 1) := by decide +kernel
theorem dX2_init_6 : decode cX2_init 6 = .ok (.putfield 9, 3) := by decide +kernel
theorem dX2_init_9 : decode cX2_init 9 = .ok (.aload_n 0, 1) := by decide +kernel
theorem dX2_init_10 : decode cX2_init 10 = .ok (.bipush 64, 2) := by decide +kernel
theorem dX2_init_12 : decode cX2_init 12 = .ok (.newarray .int, 2) := by decide +kernel
theorem dX2_init_14 : decode cX2_init 14 = .ok (.putfield 15, 3) := by decide +kernel
theorem dX2_init_17 : decode cX2_init 17 = .ok (.aload_n 0, 1) := by decide +kernel
theorem dX2_init_18 : decode cX2_init 18 = .ok (.bipush 40, 2) := by decide +kernel
theorem dX2_init_20 : decode cX2_init 20 = .ok (.newarray .int, 2) := by decide +kernel
theorem dX2_init_22 : decode cX2_init 22 = .ok (.putfield 19, 3) := by decide +kernel
theorem dX2_init_25 : decode cX2_init 25 = .ok (.aload_n 0, 1) := by decide +kernel
theorem dX2_init_26 : decode cX2_init 26 = .ok (.iconst 0, 1) := by decide +kernel
theorem dX2_init_27 : decode cX2_init 27 = .ok (.putfield 22, 3) := by decide +kernel
theorem dX2_init_30 : decode cX2_init 30 = .ok (.aload_n 0, 1) := by decide +kernel
theorem dX2_init_31 : decode cX2_init 31 = .ok (.iconst 0, 1) := by decide +kernel
theorem dX2_init_32 : decode cX2_init 32 = .ok (.putfield 25, 3) := by decide +kernel
theorem dX2_init_35 : decode cX2_init 35 = .ok (.return_, 1) := by decide +kernel
theorem dX2_buckets_0 : decode cX2_buckets 0 = .ok (.iconst 1, 1) := by decide +kernel
theorem dX2_buckets_1 : decode cX2_buckets 1 = .ok (.aload_n 0, 1) := by decide +kernel
theorem dX2_buckets_2 : decode cX2_buckets 2 = .ok (.getfield 9, 3) := by decide +kernel
theorem dX2_buckets_5 : decode cX2_buckets 5 = .ok (.ishl, 1) := by decide +kernel
theorem dX2_buckets_6 : decode cX2_buckets 6 = .ok (.ireturn, 1) := by decide +kernel
theorem dX2_hasBucket_0 : decode cX2_hasBucket 0 = .ok (.iload_n 1, 1) := by decide +kernel
theorem dX2_hasBucket_1 : decode cX2_hasBucket 1 = .ok (.ifCond .lt 26, 3) := by decide +kernel
theorem dX2_hasBucket_4 : decode cX2_hasBucket 4 = .ok (.iload_n 1, 1) := by decide +kernel
theorem dX2_hasBucket_5 : decode cX2_hasBucket 5 = .ok (.iconst 1, 1) := by decide +kernel
theorem dX2_hasBucket_6 : decode cX2_hasBucket 6 = .ok (.aload_n 0, 1) := by decide +kernel
theorem dX2_hasBucket_7 : decode cX2_hasBucket 7 = .ok (.getfield 9, 3) := by decide +kernel
theorem dX2_hasBucket_10 : decode cX2_hasBucket 10 = .ok (.ishl, 1) := by decide +kernel
theorem dX2_hasBucket_11 : decode cX2_hasBucket 11 = .ok (.if_icmp .ge 16, 3) := by decide +kernel
theorem dX2_hasBucket_14 : decode cX2_hasBucket 14 = .ok (.iload_n 1, 1) := by decide +kernel
theorem dX2_hasBucket_15 : decode cX2_hasBucket 15 = .ok (.aload_n 0, 1) := by decide +kernel
theorem dX2_hasBucket_16 : decode cX2_hasBucket 16 = .ok (.getfield 15, 3) := by decide +kernel
theorem dX2_hasBucket_19 : decode cX2_hasBucket 19 = .ok (.arraylength, 1) := by decide +kernel
theorem dX2_hasBucket_20 : decode cX2_hasBucket 20 = .ok (.if_icmp .ge 7, 3) := by decide +kernel
theorem dX2_hasBucket_23 : decode cX2_hasBucket 23 = .ok (.iconst 1, 1) := by decide +kernel
theorem dX2_hasBucket_24 : decode cX2_hasBucket 24 = .ok (.goto 4, 3) := by decide +kernel
theorem dX2_hasBucket_27 : decode cX2_hasBucket 27 = .ok (.iconst 0, 1) := by decide +kernel
theorem dX2_hasBucket_28 : decode cX2_hasBucket 28 = .ok (.ireturn, 1) := by decide +kernel
set_option maxRecDepth 20000 in
theorem ggX2_rankIn_X2_hasBucket : GoodIn wsX2_rankIn wsX2_hasBucket := goodIn_r _ [6, 7, 1, 8, 9, 10, 11, 12] (by decide +kernel) (by decide +kernel)
set_option maxRecDepth 20000 in
theorem gX2_rankIn_X2_hasBucket : GoodIn wsX2_rankIn (wsV RX2 29 RX2 yX2_hasBucket wsX2_hasBucket) := goodIn_app (goodIn_of _ (by decide +kernel)) ggX2_rankIn_X2_hasBucket
theorem dX2_rankIn_0 : decode cX2_rankIn 0 = .ok (.aload_n 0, 1) := by decide +kernel
theorem dX2_rankIn_1 : decode cX2_rankIn 1 = .ok (.iload_n 1, 1) := by decide +kernel
theorem dX2_rankIn_2 : decode cX2_rankIn 2 = .ok (.invokevirtual 29, 3) := by decide +kernel
theorem dX2_rankIn_5 : decode cX2_rankIn 5 = .ok (.ifCond .eq 12, 3) := by decide +kernel
theorem dX2_rankIn_8 : decode cX2_rankIn 8 = .ok (.aload_n 0, 1) := by decide +kernel
theorem dX2_rankIn_9 : decode cX2_rankIn 9 = .ok (.getfield 15, 3) := by decide +kernel
theorem dX2_rankIn_12 : decode cX2_rankIn 12 = .ok (.iload_n 1, 1) := by decide +kernel
theorem dX2_rankIn_13 : decode cX2_rankIn 13 = .ok (.iaload, 1) := by decide +kernel
theorem dX2_rankIn_14 : decode cX2_rankIn 14 = .ok (.goto 4, 3) := by decide +kernel
theorem dX2_rankIn_17 : decode cX2_rankIn 17 = .ok (.iconst 0, 1) := by decide +kernel
theorem dX2_rankIn_18 : decode cX2_rankIn 18 = .ok (.ireturn, 1) := by decide +kernel
set_option maxRecDepth 20000 in
theorem ggX2_bucketOf_X2_buckets : GoodIn wsX2_bucketOf wsX2_buckets := goodIn_r _ [5, 6, 7, 8, 9, 10, 11] (by decide +kernel) (by decide +kernel)
set_option maxRecDepth 20000 in
theorem gX2_bucketOf_X2_buckets : GoodIn wsX2_bucketOf (wsV RX2 33 RX2 yX2_buckets wsX2_buckets) := goodIn_app (goodIn_of _ (by decide +kernel)) ggX2_bucketOf_X2_buckets
theorem dX2_bucketOf_0 : decode cX2_bucketOf 0 = .ok (.iload_n 1, 1) := by decide +kernel
theorem dX2_bucketOf_1 : decode cX2_bucketOf 1 = .ok (.aload_n 0, 1) := by decide +kernel
theorem dX2_bucketOf_2 : decode cX2_bucketOf 2 = .ok (.invokevirtual 33, 3) := by decide +kernel
theorem dX2_bucketOf_5 : decode cX2_bucketOf 5 = .ok (.iconst 1, 1) := by decide +kernel
theorem dX2_bucketOf_6 : decode cX2_bucketOf 6 = .ok (.isub, 1) := by decide +kernel
theorem dX2_bucketOf_7 : decode cX2_bucketOf 7 = .ok (.iand, 1) := by decide +kernel
theorem dX2_bucketOf_8 : decode cX2_bucketOf 8 = .ok (.ireturn, 1) := by decide +kernel
set_option maxRecDepth 20000 in
theorem ggX2_rankOf_J6_bitCount_0f7a4 : GoodIn wsX2_rankOf wsJ6_bitCount_0f7a4 := goodIn_r _ [5, 6, 7, 8] (by decide +kernel) (by decide +kernel)
set_option maxRecDepth 20000 in
theorem gX2_rankOf_J6_bitCount_0f7a4 : GoodIn wsX2_rankOf (va_wsS RX2 37 yJ6_bitCount_0f7a4 wsJ6_bitCount_0f7a4) := goodIn_app (goodIn_of _ (by decide +kernel)) ggX2_rankOf_J6_bitCount_0f7a4
theorem dX2_rankOf_0 : decode cX2_rankOf 0 = .ok (.iload_n 1, 1) := by decide +kernel
theorem dX2_rankOf_1 : decode cX2_rankOf 1 = .ok (.aload_n 0, 1) := by decide +kernel
theorem dX2_rankOf_2 : decode cX2_rankOf 2 = .ok (.getfield 9, 3) := by decide +kernel
theorem dX2_rankOf_5 : decode cX2_rankOf 5 = .ok (.ishr, 1) := by decide +kernel
theorem dX2_rankOf_6 : decode cX2_rankOf 6 = .ok (.istore_n 2, 1) := by decide +kernel
theorem dX2_rankOf_7 : decode cX2_rankOf 7 = .ok (.iload_n 2, 1) := by decide +kernel
theorem dX2_rankOf_8 : decode cX2_rankOf 8 = .ok (.ifCond .ne 11, 3) := by decide +kernel
theorem dX2_rankOf_11 : decode cX2_rankOf 11 = .ok (.bipush 17, 2) := by decide +kernel
theorem dX2_rankOf_13 : decode cX2_rankOf 13 = .ok (.aload_n 0, 1) := by decide +kernel
theorem dX2_rankOf_14 : decode cX2_rankOf 14 = .ok (.getfield 9, 3) := by decide +kernel
theorem dX2_rankOf_17 : decode cX2_rankOf 17 = .ok (.isub, 1) := by decide +kernel
theorem dX2_rankOf_18 : decode cX2_rankOf 18 = .ok (.ireturn, 1) := by decide +kernel
theorem dX2_rankOf_19 : decode cX2_rankOf 19 = .ok (.iload_n 2, 1) := by decide +kernel
theorem dX2_rankOf_20 : decode cX2_rankOf 20 = .ok (.iload_n 2, 1) := by decide +kernel
theorem dX2_rankOf_21 : decode cX2_rankOf 21 = .ok (.ineg, 1) := by decide +kernel
theorem dX2_rankOf_22 : decode cX2_rankOf 22 = .ok (.iand, 1) := by decide +kernel
theorem dX2_rankOf_23 : decode cX2_rankOf 23 = .ok (.iconst 1, 1) := by decide +kernel
theorem dX2_rankOf_24 : decode cX2_rankOf 24 = .ok (.isub, 1) := by decide +kernel
theorem dX2_rankOf_25 : decode cX2_rankOf 25 = .ok (.invokestatic 37, 3) := by decide +kernel
theorem dX2_rankOf_28 : decode cX2_rankOf 28 = .ok (.istore_n 3, 1) := by decide +kernel
theorem dX2_rankOf_29 : decode cX2_rankOf 29 = .ok (.iconst 1, 1) := by decide +kernel
theorem dX2_rankOf_30 : decode cX2_rankOf 30 = .ok (.iload_n 3, 1) := by decide +kernel
theorem dX2_rankOf_31 : decode cX2_rankOf 31 = .ok (.iadd, 1) := by decide +kernel
theorem dX2_rankOf_32 : decode cX2_rankOf 32 = .ok (.ireturn, 1) := by decide +kernel
set_option maxRecDepth 20000 in
theorem ggX2_wouldChangeBy_X2_rankOf : GoodIn wsX2_wouldChangeBy wsX2_rankOf := goodIn_r _ [5, 6, 7, 8, 9, 10, 11, 12, 13, 31, 32, 33, 34, 35] (by decide +kernel) (by decide +kernel)
set_option maxRecDepth 20000 in
theorem gX2_wouldChangeBy_X2_rankOf : GoodIn wsX2_wouldChangeBy (wsV RX2 43 RX2 yX2_rankOf wsX2_rankOf) := goodIn_app (goodIn_of _ (by decide +kernel)) ggX2_wouldChangeBy_X2_rankOf
set_option maxRecDepth 20000 in
theorem ggX2_wouldChangeBy_X2_bucketOf : GoodIn wsX2_wouldChangeBy wsX2_bucketOf := goodIn_r _ [17, 18, 19, 20, 4, 21, 6, 31, 32, 33, 34, 35] (by decide +kernel) (by decide +kernel)
set_option maxRecDepth 20000 in
theorem gX2_wouldChangeBy_X2_bucketOf : GoodIn wsX2_wouldChangeBy (wsV RX2 46 RX2 yX2_bucketOf wsX2_bucketOf) := goodIn_app (goodIn_of _ (by decide +kernel)) ggX2_wouldChangeBy_X2_bucketOf
set_option maxRecDepth 20000 in
theorem ggX2_wouldChangeBy_X2_rankIn : GoodIn wsX2_wouldChangeBy wsX2_rankIn := goodIn_r _ [25, 26, 27, 28, 29, 4, 30, 6, 31, 32, 33, 34, 35] (by decide +kernel) (by decide +kernel)
set_option maxRecDepth 20000 in
theorem gX2_wouldChangeBy_X2_rankIn : GoodIn wsX2_wouldChangeBy (wsV RX2 49 RX2 yX2_rankIn wsX2_rankIn) := goodIn_app (goodIn_of _ (by decide +kernel)) ggX2_wouldChangeBy_X2_rankIn
theorem dX2_wouldChangeBy_0 : decode cX2_wouldChangeBy 0 = .ok (.aload_n 0, 1) := by decide +kernel
theorem dX2_wouldChangeBy_1 : decode cX2_wouldChangeBy 1 = .ok (.iload_n 1, 1) := by decide +kernel
theorem dX2_wouldChangeBy_2 : decode cX2_wouldChangeBy 2 = .ok (.invokevirtual 43, 3) := by decide +kernel
theorem dX2_wouldChangeBy_5 : decode cX2_wouldChangeBy 5 = .ok (.aload_n 0, 1) := by decide +kernel
theorem dX2_wouldChangeBy_6 : decode cX2_wouldChangeBy 6 = .ok (.aload_n 0, 1) := by decide +kernel
theorem dX2_wouldChangeBy_7 : decode cX2_wouldChangeBy 7 = .ok (.iload_n 1, 1) := by decide +kernel
theorem dX2_wouldChangeBy_8 : decode cX2_wouldChangeBy 8 = .ok (.invokevirtual 46, 3) := by decide +kernel
theorem dX2_wouldChangeBy_11 : decode cX2_wouldChangeBy 11 = .ok (.invokevirtual 49, 3) := by decide +kernel
theorem dX2_wouldChangeBy_14 : decode cX2_wouldChangeBy 14 = .ok (.if_icmp .le 7, 3) := by decide +kernel
theorem dX2_wouldChangeBy_17 : decode cX2_wouldChangeBy 17 = .ok (.iconst 1, 1) := by decide +kernel
theorem dX2_wouldChangeBy_18 : decode cX2_wouldChangeBy 18 = .ok (.goto 4, 3) := by decide +kernel
theorem dX2_wouldChangeBy_21 : decode cX2_wouldChangeBy 21 = .ok (.iconst 0, 1) := by decide +kernel
theorem dX2_wouldChangeBy_22 : decode cX2_wouldChangeBy 22 = .ok (.ireturn, 1) := by decide +kernel
set_option maxRecDepth 20000 in
theorem ggX2_takeHash_X2_bucketOf : GoodIn wsX2_takeHash wsX2_bucketOf := goodIn_r _ [5, 6, 7, 8, 4, 9, 10, 31, 32, 33, 34, 35] (by decide +kernel) (by decide +kernel)
set_option maxRecDepth 20000 in
theorem gX2_takeHash_X2_bucketOf : GoodIn wsX2_takeHash (wsV RX2 46 RX2 yX2_bucketOf wsX2_bucketOf) := goodIn_app (goodIn_of _ (by decide +kernel)) ggX2_takeHash_X2_bucketOf
set_option maxRecDepth 20000 in
theorem ggX2_takeHash_X2_rankOf : GoodIn wsX2_takeHash wsX2_rankOf := goodIn_r _ [14, 10, 15, 16, 17, 18, 19, 20, 21, 31, 32, 33, 34, 35] (by decide +kernel) (by decide +kernel)
set_option maxRecDepth 20000 in
theorem gX2_takeHash_X2_rankOf : GoodIn wsX2_takeHash (wsV RX2 43 RX2 yX2_rankOf wsX2_rankOf) := goodIn_app (goodIn_of _ (by decide +kernel)) ggX2_takeHash_X2_rankOf
set_option maxRecDepth 20000 in
theorem ggX2_takeHash_X2_raise : GoodIn wsX2_takeHash wsX2_raise := goodIn_r _ [25, 26, 27, 28, 29, 4, 30, 10, 31, 32, 33, 34, 35] (by decide +kernel) (by decide +kernel)
set_option maxRecDepth 20000 in
theorem gX2_takeHash_X2_raise : GoodIn wsX2_takeHash (wsV RX2 52 RX2 yX2_raise wsX2_raise) := goodIn_app (goodIn_of _ (by decide +kernel)) ggX2_takeHash_X2_raise
theorem dX2_takeHash_0 : decode cX2_takeHash 0 = .ok (.aload_n 0, 1) := by decide +kernel
theorem dX2_takeHash_1 : decode cX2_takeHash 1 = .ok (.aload_n 0, 1) := by decide +kernel
theorem dX2_takeHash_2 : decode cX2_takeHash 2 = .ok (.iload_n 1, 1) := by decide +kernel
theorem dX2_takeHash_3 : decode cX2_takeHash 3 = .ok (.invokevirtual 46, 3) := by decide +kernel
theorem dX2_takeHash_6 : decode cX2_takeHash 6 = .ok (.aload_n 0, 1) := by decide +kernel
theorem dX2_takeHash_7 : decode cX2_takeHash 7 = .ok (.iload_n 1, 1) := by decide +kernel
theorem dX2_takeHash_8 : decode cX2_takeHash 8 = .ok (.invokevirtual 43, 3) := by decide +kernel
theorem dX2_takeHash_11 : decode cX2_takeHash 11 = .ok (.invokevirtual 52, 3) := by decide +kernel
theorem dX2_takeHash_14 : decode cX2_takeHash 14 = .ok (.ireturn, 1) := by decide +kernel
set_option maxRecDepth 20000 in
theorem ggX2_raise_X2_hasBucket : GoodIn wsX2_raise wsX2_hasBucket := goodIn_r _ [6, 7, 1, 8, 9, 10, 11, 12] (by decide +kernel) (by decide +kernel)
set_option maxRecDepth 20000 in
theorem gX2_raise_X2_hasBucket : GoodIn wsX2_raise (wsV RX2 29 RX2 yX2_hasBucket wsX2_hasBucket) := goodIn_app (goodIn_of _ (by decide +kernel)) ggX2_raise_X2_hasBucket
theorem dX2_raise_0 : decode cX2_raise 0 = .ok (.aload_n 0, 1) := by decide +kernel
theorem dX2_raise_1 : decode cX2_raise 1 = .ok (.iload_n 1, 1) := by decide +kernel
theorem dX2_raise_2 : decode cX2_raise 2 = .ok (.invokevirtual 29, 3) := by decide +kernel
theorem dX2_raise_5 : decode cX2_raise 5 = .ok (.ifCond .eq 13, 3) := by decide +kernel
theorem dX2_raise_8 : decode cX2_raise 8 = .ok (.iload_n 2, 1) := by decide +kernel
theorem dX2_raise_9 : decode cX2_raise 9 = .ok (.aload_n 0, 1) := by decide +kernel
theorem dX2_raise_10 : decode cX2_raise 10 = .ok (.getfield 15, 3) := by decide +kernel
theorem dX2_raise_13 : decode cX2_raise 13 = .ok (.iload_n 1, 1) := by decide +kernel
theorem dX2_raise_14 : decode cX2_raise 14 = .ok (.iaload, 1) := by decide +kernel
theorem dX2_raise_15 : decode cX2_raise 15 = .ok (.if_icmp .gt 5, 3) := by decide +kernel
theorem dX2_raise_18 : decode cX2_raise 18 = .ok (.iconst 0, 1) := by decide +kernel
theorem dX2_raise_19 : decode cX2_raise 19 = .ok (.ireturn, 1) := by decide +kernel
theorem dX2_raise_20 : decode cX2_raise 20 = .ok (.aload_n 0, 1) := by decide +kernel
theorem dX2_raise_21 : decode cX2_raise 21 = .ok (.getfield 15, 3) := by decide +kernel
theorem dX2_raise_24 : decode cX2_raise 24 = .ok (.iload_n 1, 1) := by decide +kernel
theorem dX2_raise_25 : decode cX2_raise 25 = .ok (.iload_n 2, 1) := by decide +kernel
theorem dX2_raise_26 : decode cX2_raise 26 = .ok (.iastore, 1) := by decide +kernel
theorem dX2_raise_27 : decode cX2_raise 27 = .ok (.iconst 1, 1) := by decide +kernel
theorem dX2_raise_28 : decode cX2_raise 28 = .ok (.ireturn, 1) := by decide +kernel
set_option maxRecDepth 20000 in
theorem ggX2_list_X2_isListed : GoodIn wsX2_list wsX2_isListed := goodIn_r _ [8, 2, 3, 13, 14, 15, 16, 17] (by decide +kernel) (by decide +kernel)
set_option maxRecDepth 20000 in
theorem gX2_list_X2_isListed : GoodIn wsX2_list (wsV RX2 56 RX2 yX2_isListed wsX2_isListed) := goodIn_app (goodIn_of _ (by decide +kernel)) ggX2_list_X2_isListed
set_option maxRecDepth 20000 in
theorem ggX2_list_X2_fillList : GoodIn wsX2_list wsX2_fillList := goodIn_r _ [12, 1, 2, 13, 14, 15, 16, 17] (by decide +kernel) (by decide +kernel)
set_option maxRecDepth 20000 in
theorem gX2_list_X2_fillList : GoodIn wsX2_list (wsV RX2 59 RX2 yX2_fillList wsX2_fillList) := goodIn_app (goodIn_of _ (by decide +kernel)) ggX2_list_X2_fillList
theorem dX2_list_0 : decode cX2_list 0 = .ok (.aload_n 0, 1) := by decide +kernel
theorem dX2_list_1 : decode cX2_list 1 = .ok (.getfield 25, 3) := by decide +kernel
theorem dX2_list_4 : decode cX2_list 4 = .ok (.ifCond .ne 11, 3) := by decide +kernel
theorem dX2_list_7 : decode cX2_list 7 = .ok (.aload_n 0, 1) := by decide +kernel
theorem dX2_list_8 : decode cX2_list 8 = .ok (.iload_n 1, 1) := by decide +kernel
theorem dX2_list_9 : decode cX2_list 9 = .ok (.invokevirtual 56, 3) := by decide +kernel
theorem dX2_list_12 : decode cX2_list 12 = .ok (.ifCond .eq 4, 3) := by decide +kernel
theorem dX2_list_15 : decode cX2_list 15 = .ok (.return_, 1) := by decide +kernel
theorem dX2_list_16 : decode cX2_list 16 = .ok (.aload_n 0, 1) := by decide +kernel
theorem dX2_list_17 : decode cX2_list 17 = .ok (.getfield 22, 3) := by decide +kernel
theorem dX2_list_20 : decode cX2_list 20 = .ok (.aload_n 0, 1) := by decide +kernel
theorem dX2_list_21 : decode cX2_list 21 = .ok (.getfield 19, 3) := by decide +kernel
theorem dX2_list_24 : decode cX2_list 24 = .ok (.arraylength, 1) := by decide +kernel
theorem dX2_list_25 : decode cX2_list 25 = .ok (.if_icmp .lt 8, 3) := by decide +kernel
theorem dX2_list_28 : decode cX2_list 28 = .ok (.aload_n 0, 1) := by decide +kernel
theorem dX2_list_29 : decode cX2_list 29 = .ok (.invokevirtual 59, 3) := by decide +kernel
theorem dX2_list_32 : decode cX2_list 32 = .ok (.return_, 1) := by decide +kernel
theorem dX2_list_33 : decode cX2_list 33 = .ok (.aload_n 0, 1) := by decide +kernel
theorem dX2_list_34 : decode cX2_list 34 = .ok (.getfield 19, 3) := by decide +kernel
theorem dX2_list_37 : decode cX2_list 37 = .ok (.aload_n 0, 1) := by decide +kernel
theorem dX2_list_38 : decode cX2_list 38 = .ok (.getfield 22, 3) := by decide +kernel
theorem dX2_list_41 : decode cX2_list 41 = .ok (.iload_n 1, 1) := by decide +kernel
theorem dX2_list_42 : decode cX2_list 42 = .ok (.iastore, 1) := by decide +kernel
theorem dX2_list_43 : decode cX2_list 43 = .ok (.aload_n 0, 1) := by decide +kernel
theorem dX2_list_44 : decode cX2_list 44 = .ok (.dup, 1) := by decide +kernel
theorem dX2_list_45 : decode cX2_list 45 = .ok (.getfield 22, 3) := by decide +kernel
theorem dX2_list_48 : decode cX2_list 48 = .ok (.iconst 1, 1) := by decide +kernel
theorem dX2_list_49 : decode cX2_list 49 = .ok (.iadd, 1) := by decide +kernel
theorem dX2_list_50 : decode cX2_list 50 = .ok (.putfield 22, 3) := by decide +kernel
theorem dX2_list_53 : decode cX2_list 53 = .ok (.return_, 1) := by decide +kernel
theorem dX2_fillList_0 : decode cX2_fillList 0 = .ok (.aload_n 0, 1) := by decide +kernel
theorem dX2_fillList_1 : decode cX2_fillList 1 = .ok (.iconst 1, 1) := by decide +kernel
theorem dX2_fillList_2 : decode cX2_fillList 2 = .ok (.putfield 25, 3) := by decide +kernel
theorem dX2_fillList_5 : decode cX2_fillList 5 = .ok (.aload_n 0, 1) := by decide +kernel
theorem dX2_fillList_6 : decode cX2_fillList 6 = .ok (.iconst 0, 1) := by decide +kernel
theorem dX2_fillList_7 : decode cX2_fillList 7 = .ok (.putfield 22, 3) := by decide +kernel
theorem dX2_fillList_10 : decode cX2_fillList 10 = .ok (.return_, 1) := by decide +kernel
theorem dX2_isListed_0 : decode cX2_isListed 0 = .ok (.iconst 0, 1) := by decide +kernel
theorem dX2_isListed_1 : decode cX2_isListed 1 = .ok (.istore_n 2, 1) := by decide +kernel
theorem dX2_isListed_2 : decode cX2_isListed 2 = .ok (.iload_n 2, 1) := by decide +kernel
theorem dX2_isListed_3 : decode cX2_isListed 3 = .ok (.aload_n 0, 1) := by decide +kernel
theorem dX2_isListed_4 : decode cX2_isListed 4 = .ok (.getfield 22, 3) := by decide +kernel
theorem dX2_isListed_7 : decode cX2_isListed 7 = .ok (.if_icmp .ge 30, 3) := by decide +kernel
theorem dX2_isListed_10 : decode cX2_isListed 10 = .ok (.iload_n 2, 1) := by decide +kernel
theorem dX2_isListed_11 : decode cX2_isListed 11 = .ok (.aload_n 0, 1) := by decide +kernel
theorem dX2_isListed_12 : decode cX2_isListed 12 = .ok (.getfield 19, 3) := by decide +kernel
theorem dX2_isListed_15 : decode cX2_isListed 15 = .ok (.arraylength, 1) := by decide +kernel
theorem dX2_isListed_16 : decode cX2_isListed 16 = .ok (.if_icmp .ge 21, 3) := by decide +kernel
theorem dX2_isListed_19 : decode cX2_isListed 19 = .ok (.aload_n 0, 1) := by decide +kernel
theorem dX2_isListed_20 : decode cX2_isListed 20 = .ok (.getfield 19, 3) := by decide +kernel
theorem dX2_isListed_23 : decode cX2_isListed 23 = .ok (.iload_n 2, 1) := by decide +kernel
theorem dX2_isListed_24 : decode cX2_isListed 24 = .ok (.iaload, 1) := by decide +kernel
theorem dX2_isListed_25 : decode cX2_isListed 25 = .ok (.iload_n 1, 1) := by decide +kernel
theorem dX2_isListed_26 : decode cX2_isListed 26 = .ok (.if_icmp .ne 5, 3) := by decide +kernel
theorem dX2_isListed_29 : decode cX2_isListed 29 = .ok (.iconst 1, 1) := by decide +kernel
theorem dX2_isListed_30 : decode cX2_isListed 30 = .ok (.ireturn, 1) := by decide +kernel
theorem dX2_isListed_31 : decode cX2_isListed 31 = .ok (.iinc 2 1, 3) := by decide +kernel
theorem dX2_isListed_34 : decode cX2_isListed 34 = .ok (.goto (-32), 3) := by decide +kernel
theorem dX2_isListed_37 : decode cX2_isListed 37 = .ok (.iconst 0, 1) := by decide +kernel
theorem dX2_isListed_38 : decode cX2_isListed 38 = .ok (.ireturn, 1) := by decide +kernel
theorem dX2_hasPlace_0 : decode cX2_hasPlace 0 = .ok (.iload_n 1, 1) := by decide +kernel
theorem dX2_hasPlace_1 : decode cX2_hasPlace 1 = .ok (.ifCond .lt 24, 3) := by decide +kernel
theorem dX2_hasPlace_4 : decode cX2_hasPlace 4 = .ok (.iload_n 1, 1) := by decide +kernel
theorem dX2_hasPlace_5 : decode cX2_hasPlace 5 = .ok (.aload_n 0, 1) := by decide +kernel
theorem dX2_hasPlace_6 : decode cX2_hasPlace 6 = .ok (.getfield 22, 3) := by decide +kernel
theorem dX2_hasPlace_9 : decode cX2_hasPlace 9 = .ok (.if_icmp .ge 16, 3) := by decide +kernel
theorem dX2_hasPlace_12 : decode cX2_hasPlace 12 = .ok (.iload_n 1, 1) := by decide +kernel
theorem dX2_hasPlace_13 : decode cX2_hasPlace 13 = .ok (.aload_n 0, 1) := by decide +kernel
theorem dX2_hasPlace_14 : decode cX2_hasPlace 14 = .ok (.getfield 19, 3) := by decide +kernel
theorem dX2_hasPlace_17 : decode cX2_hasPlace 17 = .ok (.arraylength, 1) := by decide +kernel
theorem dX2_hasPlace_18 : decode cX2_hasPlace 18 = .ok (.if_icmp .ge 7, 3) := by decide +kernel
theorem dX2_hasPlace_21 : decode cX2_hasPlace 21 = .ok (.iconst 1, 1) := by decide +kernel
theorem dX2_hasPlace_22 : decode cX2_hasPlace 22 = .ok (.goto 4, 3) := by decide +kernel
theorem dX2_hasPlace_25 : decode cX2_hasPlace 25 = .ok (.iconst 0, 1) := by decide +kernel
theorem dX2_hasPlace_26 : decode cX2_hasPlace 26 = .ok (.ireturn, 1) := by decide +kernel
set_option maxRecDepth 20000 in
theorem ggX2_thingAt_X2_hasPlace : GoodIn wsX2_thingAt wsX2_hasPlace := goodIn_r _ [6, 7, 1, 8, 9, 10, 11, 12] (by decide +kernel) (by decide +kernel)
set_option maxRecDepth 20000 in
theorem gX2_thingAt_X2_hasPlace : GoodIn wsX2_thingAt (wsV RX2 62 RX2 yX2_hasPlace wsX2_hasPlace) := goodIn_app (goodIn_of _ (by decide +kernel)) ggX2_thingAt_X2_hasPlace
theorem dX2_thingAt_0 : decode cX2_thingAt 0 = .ok (.aload_n 0, 1) := by decide +kernel
theorem dX2_thingAt_1 : decode cX2_thingAt 1 = .ok (.iload_n 1, 1) := by decide +kernel
theorem dX2_thingAt_2 : decode cX2_thingAt 2 = .ok (.invokevirtual 62, 3) := by decide +kernel
theorem dX2_thingAt_5 : decode cX2_thingAt 5 = .ok (.ifCond .eq 12, 3) := by decide +kernel
theorem dX2_thingAt_8 : decode cX2_thingAt 8 = .ok (.aload_n 0, 1) := by decide +kernel
theorem dX2_thingAt_9 : decode cX2_thingAt 9 = .ok (.getfield 19, 3) := by decide +kernel
theorem dX2_thingAt_12 : decode cX2_thingAt 12 = .ok (.iload_n 1, 1) := by decide +kernel
theorem dX2_thingAt_13 : decode cX2_thingAt 13 = .ok (.iaload, 1) := by decide +kernel
theorem dX2_thingAt_14 : decode cX2_thingAt 14 = .ok (.goto 5, 3) := by decide +kernel
theorem dX2_thingAt_17 : decode cX2_thingAt 17 = .ok (.bipush (-6), 2) := by decide +kernel
theorem dX2_thingAt_19 : decode cX2_thingAt 19 = .ok (.ireturn, 1) := by decide +kernel
set_option maxRecDepth 20000 in
theorem ggX2_takeAll_X2_buckets : GoodIn wsX2_takeAll wsX2_buckets := goodIn_r _ [7, 8, 43, 44, 45, 46, 47] (by decide +kernel) (by decide +kernel)
set_option maxRecDepth 20000 in
theorem gX2_takeAll_X2_buckets : GoodIn wsX2_takeAll (wsV RX2 33 RX2 yX2_buckets wsX2_buckets) := goodIn_app (goodIn_of _ (by decide +kernel)) ggX2_takeAll_X2_buckets
set_option maxRecDepth 20000 in
theorem ggX2_takeAll_X2_rankIn : GoodIn wsX2_takeAll wsX2_rankIn := goodIn_r _ [12, 13, 14, 15, 16, 6, 17, 8, 43, 44, 45, 46, 47] (by decide +kernel) (by decide +kernel)
set_option maxRecDepth 20000 in
theorem gX2_takeAll_X2_rankIn : GoodIn wsX2_takeAll (wsV RX2 49 RX2 yX2_rankIn wsX2_rankIn) := goodIn_app (goodIn_of _ (by decide +kernel)) ggX2_takeAll_X2_rankIn
set_option maxRecDepth 20000 in
theorem ggX2_takeAll_X2_raise : GoodIn wsX2_takeAll wsX2_raise := goodIn_r _ [21, 13, 14, 15, 16, 6, 17, 8, 43, 44, 45, 46, 47] (by decide +kernel) (by decide +kernel)
set_option maxRecDepth 20000 in
theorem gX2_takeAll_X2_raise : GoodIn wsX2_takeAll (wsV RX2 52 RX2 yX2_raise wsX2_raise) := goodIn_app (goodIn_of _ (by decide +kernel)) ggX2_takeAll_X2_raise
set_option maxRecDepth 20000 in
theorem ggX2_takeAll_X2_fillList : GoodIn wsX2_takeAll wsX2_fillList := goodIn_r _ [25, 1, 2, 43, 44, 45, 46, 47] (by decide +kernel) (by decide +kernel)
set_option maxRecDepth 20000 in
theorem gX2_takeAll_X2_fillList : GoodIn wsX2_takeAll (wsV RX2 59 RX2 yX2_fillList wsX2_fillList) := goodIn_app (goodIn_of _ (by decide +kernel)) ggX2_takeAll_X2_fillList
set_option maxRecDepth 20000 in
theorem ggX2_takeAll_X2_thingAt : GoodIn wsX2_takeAll wsX2_thingAt := goodIn_r _ [29, 30, 31, 32, 33, 6, 34, 2, 43, 44, 45, 46, 47] (by decide +kernel) (by decide +kernel)
set_option maxRecDepth 20000 in
theorem gX2_takeAll_X2_thingAt : GoodIn wsX2_takeAll (wsV RX2 65 RX2 yX2_thingAt wsX2_thingAt) := goodIn_app (goodIn_of _ (by decide +kernel)) ggX2_takeAll_X2_thingAt
set_option maxRecDepth 20000 in
theorem ggX2_takeAll_X2_list : GoodIn wsX2_takeAll wsX2_list := goodIn_r _ [38, 1, 2, 30, 39, 40, 41, 6, 42, 22, 23, 24, 25, 43, 44, 45, 46, 47] (by decide +kernel) (by decide +kernel)
set_option maxRecDepth 20000 in
theorem gX2_takeAll_X2_list : GoodIn wsX2_takeAll (wsV RX2 68 RX2 yX2_list wsX2_list) := goodIn_app (goodIn_of _ (by decide +kernel)) ggX2_takeAll_X2_list
theorem dX2_takeAll_0 : decode cX2_takeAll 0 = .ok (.iconst 0, 1) := by decide +kernel
theorem dX2_takeAll_1 : decode cX2_takeAll 1 = .ok (.istore_n 2, 1) := by decide +kernel
theorem dX2_takeAll_2 : decode cX2_takeAll 2 = .ok (.iload_n 2, 1) := by decide +kernel
theorem dX2_takeAll_3 : decode cX2_takeAll 3 = .ok (.aload_n 0, 1) := by decide +kernel
theorem dX2_takeAll_4 : decode cX2_takeAll 4 = .ok (.invokevirtual 33, 3) := by decide +kernel
theorem dX2_takeAll_7 : decode cX2_takeAll 7 = .ok (.if_icmp .ge 20, 3) := by decide +kernel
theorem dX2_takeAll_10 : decode cX2_takeAll 10 = .ok (.aload_n 0, 1) := by decide +kernel
theorem dX2_takeAll_11 : decode cX2_takeAll 11 = .ok (.iload_n 2, 1) := by decide +kernel
theorem dX2_takeAll_12 : decode cX2_takeAll 12 = .ok (.aload_n 1, 1) := by decide +kernel
theorem dX2_takeAll_13 : decode cX2_takeAll 13 = .ok (.iload_n 2, 1) := by decide +kernel
theorem dX2_takeAll_14 : decode cX2_takeAll 14 = .ok (.invokevirtual 49, 3) := by decide +kernel
theorem dX2_takeAll_17 : decode cX2_takeAll 17 = .ok (.invokevirtual 52, 3) := by decide +kernel
theorem dX2_takeAll_20 : decode cX2_takeAll 20 = .ok (.pop, 1) := by decide +kernel
theorem dX2_takeAll_21 : decode cX2_takeAll 21 = .ok (.iinc 2 1, 3) := by decide +kernel
theorem dX2_takeAll_24 : decode cX2_takeAll 24 = .ok (.goto (-22), 3) := by decide +kernel
theorem dX2_takeAll_27 : decode cX2_takeAll 27 = .ok (.aload_n 1, 1) := by decide +kernel
theorem dX2_takeAll_28 : decode cX2_takeAll 28 = .ok (.getfield 25, 3) := by decide +kernel
theorem dX2_takeAll_31 : decode cX2_takeAll 31 = .ok (.ifCond .eq 7, 3) := by decide +kernel
theorem dX2_takeAll_34 : decode cX2_takeAll 34 = .ok (.aload_n 0, 1) := by decide +kernel
theorem dX2_takeAll_35 : decode cX2_takeAll 35 = .ok (.invokevirtual 59, 3) := by decide +kernel
theorem dX2_takeAll_38 : decode cX2_takeAll 38 = .ok (.iconst 0, 1) := by decide +kernel
theorem dX2_takeAll_39 : decode cX2_takeAll 39 = .ok (.istore_n 2, 1) := by decide +kernel
theorem dX2_takeAll_40 : decode cX2_takeAll 40 = .ok (.iload_n 2, 1) := by decide +kernel
theorem dX2_takeAll_41 : decode cX2_takeAll 41 = .ok (.aload_n 1, 1) := by decide +kernel
theorem dX2_takeAll_42 : decode cX2_takeAll 42 = .ok (.getfield 22, 3) := by decide +kernel
theorem dX2_takeAll_45 : decode cX2_takeAll 45 = .ok (.if_icmp .ge 18, 3) := by decide +kernel
theorem dX2_takeAll_48 : decode cX2_takeAll 48 = .ok (.aload_n 0, 1) := by decide +kernel
theorem dX2_takeAll_49 : decode cX2_takeAll 49 = .ok (.aload_n 1, 1) := by decide +kernel
theorem dX2_takeAll_50 : decode cX2_takeAll 50 = .ok (.iload_n 2, 1) := by decide +kernel
theorem dX2_takeAll_51 : decode cX2_takeAll 51 = .ok (.invokevirtual 65, 3) := by decide +kernel
theorem dX2_takeAll_54 : decode cX2_takeAll 54 = .ok (.invokevirtual 68, 3) := by decide +kernel
theorem dX2_takeAll_57 : decode cX2_takeAll 57 = .ok (.iinc 2 1, 3) := by decide +kernel
theorem dX2_takeAll_60 : decode cX2_takeAll 60 = .ok (.goto (-20), 3) := by decide +kernel
theorem dX2_takeAll_63 : decode cX2_takeAll 63 = .ok (.return_, 1) := by decide +kernel
set_option maxRecDepth 20000 in
theorem ggX2_halve_X2_buckets : GoodIn wsX2_halve wsX2_buckets := goodIn_r _ [11, 6, 20, 21, 22, 23, 24] (by decide +kernel) (by decide +kernel)
set_option maxRecDepth 20000 in
theorem gX2_halve_X2_buckets : GoodIn wsX2_halve (wsV RX2 33 RX2 yX2_buckets wsX2_buckets) := goodIn_app (goodIn_of _ (by decide +kernel)) ggX2_halve_X2_buckets
set_option maxRecDepth 20000 in
theorem ggX2_halve_X2_rankIn : GoodIn wsX2_halve wsX2_rankIn := goodIn_r _ [15, 1, 16, 17, 18, 10, 19, 6, 20, 21, 22, 23, 24] (by decide +kernel) (by decide +kernel)
set_option maxRecDepth 20000 in
theorem gX2_halve_X2_rankIn : GoodIn wsX2_halve (wsV RX2 49 RX2 yX2_rankIn wsX2_rankIn) := goodIn_app (goodIn_of _ (by decide +kernel)) ggX2_halve_X2_rankIn
theorem dX2_halve_0 : decode cX2_halve 0 = .ok (.aload_n 0, 1) := by decide +kernel
theorem dX2_halve_1 : decode cX2_halve 1 = .ok (.invokevirtual 33, 3) := by decide +kernel
theorem dX2_halve_4 : decode cX2_halve 4 = .ok (.iconst 2, 1) := by decide +kernel
theorem dX2_halve_5 : decode cX2_halve 5 = .ok (.idiv, 1) := by decide +kernel
theorem dX2_halve_6 : decode cX2_halve 6 = .ok (.istore_n 1, 1) := by decide +kernel
theorem dX2_halve_7 : decode cX2_halve 7 = .ok (.iconst 0, 1) := by decide +kernel
theorem dX2_halve_8 : decode cX2_halve 8 = .ok (.istore_n 2, 1) := by decide +kernel
theorem dX2_halve_9 : decode cX2_halve 9 = .ok (.iload_n 2, 1) := by decide +kernel
theorem dX2_halve_10 : decode cX2_halve 10 = .ok (.iload_n 1, 1) := by decide +kernel
theorem dX2_halve_11 : decode cX2_halve 11 = .ok (.if_icmp .ge 67, 3) := by decide +kernel
theorem dX2_halve_14 : decode cX2_halve 14 = .ok (.iload_n 2, 1) := by decide +kernel
theorem dX2_halve_15 : decode cX2_halve 15 = .ok (.aload_n 0, 1) := by decide +kernel
theorem dX2_halve_16 : decode cX2_halve 16 = .ok (.getfield 15, 3) := by decide +kernel
theorem dX2_halve_19 : decode cX2_halve 19 = .ok (.arraylength, 1) := by decide +kernel
theorem dX2_halve_20 : decode cX2_halve 20 = .ok (.if_icmp .ge 58, 3) := by decide +kernel
theorem dX2_halve_23 : decode cX2_halve 23 = .ok (.aload_n 0, 1) := by decide +kernel
theorem dX2_halve_24 : decode cX2_halve 24 = .ok (.iload_n 2, 1) := by decide +kernel
theorem dX2_halve_25 : decode cX2_halve 25 = .ok (.invokevirtual 49, 3) := by decide +kernel
theorem dX2_halve_28 : decode cX2_halve 28 = .ok (.ifCond .ne 7, 3) := by decide +kernel
theorem dX2_halve_31 : decode cX2_halve 31 = .ok (.iconst 0, 1) := by decide +kernel
theorem dX2_halve_32 : decode cX2_halve 32 = .ok (.goto 10, 3) := by decide +kernel
theorem dX2_halve_35 : decode cX2_halve 35 = .ok (.aload_n 0, 1) := by decide +kernel
theorem dX2_halve_36 : decode cX2_halve 36 = .ok (.iload_n 2, 1) := by decide +kernel
theorem dX2_halve_37 : decode cX2_halve 37 = .ok (.invokevirtual 49, 3) := by decide +kernel
theorem dX2_halve_40 : decode cX2_halve 40 = .ok (.iconst 1, 1) := by decide +kernel
theorem dX2_halve_41 : decode cX2_halve 41 = .ok (.iadd, 1) := by decide +kernel
theorem dX2_halve_42 : decode cX2_halve 42 = .ok (.istore_n 3, 1) := by decide +kernel
theorem dX2_halve_43 : decode cX2_halve 43 = .ok (.aload_n 0, 1) := by decide +kernel
theorem dX2_halve_44 : decode cX2_halve 44 = .ok (.iload_n 2, 1) := by decide +kernel
theorem dX2_halve_45 : decode cX2_halve 45 = .ok (.iload_n 1, 1) := by decide +kernel
theorem dX2_halve_46 : decode cX2_halve 46 = .ok (.iadd, 1) := by decide +kernel
theorem dX2_halve_47 : decode cX2_halve 47 = .ok (.invokevirtual 49, 3) := by decide +kernel
theorem dX2_halve_50 : decode cX2_halve 50 = .ok (.ifCond .ne 7, 3) := by decide +kernel
theorem dX2_halve_53 : decode cX2_halve 53 = .ok (.iconst 0, 1) := by decide +kernel
theorem dX2_halve_54 : decode cX2_halve 54 = .ok (.goto 4, 3) := by decide +kernel
theorem dX2_halve_57 : decode cX2_halve 57 = .ok (.iconst 1, 1) := by decide +kernel
theorem dX2_halve_58 : decode cX2_halve 58 = .ok (.istore 4, 2) := by decide +kernel
theorem dX2_halve_60 : decode cX2_halve 60 = .ok (.aload_n 0, 1) := by decide +kernel
theorem dX2_halve_61 : decode cX2_halve 61 = .ok (.getfield 15, 3) := by decide +kernel
theorem dX2_halve_64 : decode cX2_halve 64 = .ok (.iload_n 2, 1) := by decide +kernel
theorem dX2_halve_65 : decode cX2_halve 65 = .ok (.iload_n 3, 1) := by decide +kernel
theorem dX2_halve_66 : decode cX2_halve 66 = .ok (.iload 4, 2) := by decide +kernel
theorem dX2_halve_68 : decode cX2_halve 68 = .ok (.invokestatic 72, 3) := by decide +kernel
theorem dX2_halve_71 : decode cX2_halve 71 = .ok (.iastore, 1) := by decide +kernel
theorem dX2_halve_72 : decode cX2_halve 72 = .ok (.iinc 2 1, 3) := by decide +kernel
theorem dX2_halve_75 : decode cX2_halve 75 = .ok (.goto (-66), 3) := by decide +kernel
theorem dX2_halve_78 : decode cX2_halve 78 = .ok (.iload_n 1, 1) := by decide +kernel
theorem dX2_halve_79 : decode cX2_halve 79 = .ok (.istore_n 2, 1) := by decide +kernel
theorem dX2_halve_80 : decode cX2_halve 80 = .ok (.iload_n 2, 1) := by decide +kernel
theorem dX2_halve_81 : decode cX2_halve 81 = .ok (.aload_n 0, 1) := by decide +kernel
theorem dX2_halve_82 : decode cX2_halve 82 = .ok (.getfield 15, 3) := by decide +kernel
theorem dX2_halve_85 : decode cX2_halve 85 = .ok (.arraylength, 1) := by decide +kernel
theorem dX2_halve_86 : decode cX2_halve 86 = .ok (.if_icmp .ge 16, 3) := by decide +kernel
theorem dX2_halve_89 : decode cX2_halve 89 = .ok (.aload_n 0, 1) := by decide +kernel
theorem dX2_halve_90 : decode cX2_halve 90 = .ok (.getfield 15, 3) := by decide +kernel
theorem dX2_halve_93 : decode cX2_halve 93 = .ok (.iload_n 2, 1) := by decide +kernel
theorem dX2_halve_94 : decode cX2_halve 94 = .ok (.iconst 0, 1) := by decide +kernel
theorem dX2_halve_95 : decode cX2_halve 95 = .ok (.iastore, 1) := by decide +kernel
theorem dX2_halve_96 : decode cX2_halve 96 = .ok (.iinc 2 1, 3) := by decide +kernel
theorem dX2_halve_99 : decode cX2_halve 99 = .ok (.goto (-19), 3) := by decide +kernel
theorem dX2_halve_102 : decode cX2_halve 102 = .ok (.aload_n 0, 1) := by decide +kernel
theorem dX2_halve_103 : decode cX2_halve 103 = .ok (.dup, 1) := by decide +kernel
theorem dX2_halve_104 : decode cX2_halve 104 = .ok (.getfield 9, 3) := by decide +kernel
theorem dX2_halve_107 : decode cX2_halve 107 = .ok (.iconst 1, 1) := by decide +kernel
theorem dX2_halve_108 : decode cX2_halve 108 = .ok (.isub, 1) := by decide +kernel
theorem dX2_halve_109 : decode cX2_halve 109 = .ok (.putfield 9, 3) := by decide +kernel
theorem dX2_halve_112 : decode cX2_halve 112 = .ok (.return_, 1) := by decide +kernel
set_option maxRecDepth 20000 in
theorem ggX2_startAgain_J7_fill_53178 : GoodIn wsX2_startAgain wsJ7_fill_53178 := goodIn_r _ [8] (by decide +kernel) (by decide +kernel)
set_option maxRecDepth 20000 in
theorem gX2_startAgain_J7_fill_53178 : GoodIn wsX2_startAgain (va_wsS RX2 78 yJ7_fill_53178 wsJ7_fill_53178) := goodIn_app (goodIn_of _ (by decide +kernel)) ggX2_startAgain_J7_fill_53178
theorem dX2_startAgain_0 : decode cX2_startAgain 0 = .ok (.aload_n 0, 1) := by decide +kernel
theorem dX2_startAgain_1 : decode cX2_startAgain 1 = .ok (.iload_n 1, 1) := by decide +kernel
theorem dX2_startAgain_2 : decode cX2_startAgain 2 = .ok (.putfield 9, 3) := by decide +kernel
theorem dX2_startAgain_5 : decode cX2_startAgain 5 = .ok (.aload_n 0, 1) := by decide +kernel
theorem dX2_startAgain_6 : decode cX2_startAgain 6 = .ok (.getfield 15, 3) := by decide +kernel
theorem dX2_startAgain_9 : decode cX2_startAgain 9 = .ok (.iconst 0, 1) := by decide +kernel
theorem dX2_startAgain_10 : decode cX2_startAgain 10 = .ok (.invokestatic 78, 3) := by decide +kernel
theorem dX2_startAgain_13 : decode cX2_startAgain 13 = .ok (.aload_n 0, 1) := by decide +kernel
theorem dX2_startAgain_14 : decode cX2_startAgain 14 = .ok (.iconst 0, 1) := by decide +kernel
theorem dX2_startAgain_15 : decode cX2_startAgain 15 = .ok (.putfield 22, 3) := by decide +kernel
theorem dX2_startAgain_18 : decode cX2_startAgain 18 = .ok (.aload_n 0, 1) := by decide +kernel
theorem dX2_startAgain_19 : decode cX2_startAgain 19 = .ok (.iconst 0, 1) := by decide +kernel
theorem dX2_startAgain_20 : decode cX2_startAgain 20 = .ok (.putfield 25, 3) := by decide +kernel
theorem dX2_startAgain_23 : decode cX2_startAgain 23 = .ok (.return_, 1) := by decide +kernel
theorem dX2_copyFrom_0 : decode cX2_copyFrom 0 = .ok (.aload_n 0, 1) := by decide +kernel
theorem dX2_copyFrom_1 : decode cX2_copyFrom 1 = .ok (.aload_n 1, 1) := by decide +kernel
theorem dX2_copyFrom_2 : decode cX2_copyFrom 2 = .ok (.getfield 9, 3) := by decide +kernel
theorem dX2_copyFrom_5 : decode cX2_copyFrom 5 = .ok (.putfield 9, 3) := by decide +kernel
theorem dX2_copyFrom_8 : decode cX2_copyFrom 8 = .ok (.aload_n 1, 1) := by decide +kernel
theorem dX2_copyFrom_9 : decode cX2_copyFrom 9 = .ok (.getfield 15, 3) := by decide +kernel
theorem dX2_copyFrom_12 : decode cX2_copyFrom 12 = .ok (.iconst 0, 1) := by decide +kernel
theorem dX2_copyFrom_13 : decode cX2_copyFrom 13 = .ok (.aload_n 0, 1) := by decide +kernel
theorem dX2_copyFrom_14 : decode cX2_copyFrom 14 = .ok (.getfield 15, 3) := by decide +kernel
theorem dX2_copyFrom_17 : decode cX2_copyFrom 17 = .ok (.iconst 0, 1) := by decide +kernel
theorem dX2_copyFrom_18 : decode cX2_copyFrom 18 = .ok (.aload_n 0, 1) := by decide +kernel
theorem dX2_copyFrom_19 : decode cX2_copyFrom 19 = .ok (.getfield 15, 3) := by decide +kernel
theorem dX2_copyFrom_22 : decode cX2_copyFrom 22 = .ok (.arraylength, 1) := by decide +kernel
theorem dX2_copyFrom_23 : decode cX2_copyFrom 23 = .ok (.invokestatic 84, 3) := by decide +kernel
theorem dX2_copyFrom_26 : decode cX2_copyFrom 26 = .ok (.aload_n 1, 1) := by decide +kernel
theorem dX2_copyFrom_27 : decode cX2_copyFrom 27 = .ok (.getfield 19, 3) := by decide +kernel
theorem dX2_copyFrom_30 : decode cX2_copyFrom 30 = .ok (.iconst 0, 1) := by decide +kernel
theorem dX2_copyFrom_31 : decode cX2_copyFrom 31 = .ok (.aload_n 0, 1) := by decide +kernel
theorem dX2_copyFrom_32 : decode cX2_copyFrom 32 = .ok (.getfield 19, 3) := by decide +kernel
theorem dX2_copyFrom_35 : decode cX2_copyFrom 35 = .ok (.iconst 0, 1) := by decide +kernel
theorem dX2_copyFrom_36 : decode cX2_copyFrom 36 = .ok (.aload_n 0, 1) := by decide +kernel
theorem dX2_copyFrom_37 : decode cX2_copyFrom 37 = .ok (.getfield 19, 3) := by decide +kernel
theorem dX2_copyFrom_40 : decode cX2_copyFrom 40 = .ok (.arraylength, 1) := by decide +kernel
theorem dX2_copyFrom_41 : decode cX2_copyFrom 41 = .ok (.invokestatic 84, 3) := by decide +kernel
theorem dX2_copyFrom_44 : decode cX2_copyFrom 44 = .ok (.aload_n 0, 1) := by decide +kernel
theorem dX2_copyFrom_45 : decode cX2_copyFrom 45 = .ok (.aload_n 1, 1) := by decide +kernel
theorem dX2_copyFrom_46 : decode cX2_copyFrom 46 = .ok (.getfield 22, 3) := by decide +kernel
theorem dX2_copyFrom_49 : decode cX2_copyFrom 49 = .ok (.putfield 22, 3) := by decide +kernel
theorem dX2_copyFrom_52 : decode cX2_copyFrom 52 = .ok (.aload_n 0, 1) := by decide +kernel
theorem dX2_copyFrom_53 : decode cX2_copyFrom 53 = .ok (.aload_n 1, 1) := by decide +kernel
theorem dX2_copyFrom_54 : decode cX2_copyFrom 54 = .ok (.getfield 25, 3) := by decide +kernel
theorem dX2_copyFrom_57 : decode cX2_copyFrom 57 = .ok (.putfield 25, 3) := by decide +kernel
theorem dX2_copyFrom_60 : decode cX2_copyFrom 60 = .ok (.return_, 1) := by decide +kernel
set_option maxRecDepth 20000 in
theorem ggX2_emptyBuckets_X2_buckets : GoodIn wsX2_emptyBuckets wsX2_buckets := goodIn_r _ [5, 6, 20, 21, 22, 23, 24] (by decide +kernel) (by decide +kernel)
set_option maxRecDepth 20000 in
theorem gX2_emptyBuckets_X2_buckets : GoodIn wsX2_emptyBuckets (wsV RX2 33 RX2 yX2_buckets wsX2_buckets) := goodIn_app (goodIn_of _ (by decide +kernel)) ggX2_emptyBuckets_X2_buckets
set_option maxRecDepth 20000 in
theorem ggX2_emptyBuckets_X2_filledBuckets : GoodIn wsX2_emptyBuckets wsX2_filledBuckets := goodIn_r _ [10, 1, 2, 3, 4, 5, 6, 11, 12, 13, 14, 15, 16, 17, 18, 19, 20, 21, 22, 23, 24] (by decide +kernel) (by decide +kernel)
set_option maxRecDepth 20000 in
theorem gX2_emptyBuckets_X2_filledBuckets : GoodIn wsX2_emptyBuckets (wsV RX2 90 RX2 yX2_filledBuckets wsX2_filledBuckets) := goodIn_app (goodIn_of _ (by decide +kernel)) ggX2_emptyBuckets_X2_filledBuckets
theorem dX2_emptyBuckets_0 : decode cX2_emptyBuckets 0 = .ok (.aload_n 0, 1) := by decide +kernel
theorem dX2_emptyBuckets_1 : decode cX2_emptyBuckets 1 = .ok (.invokevirtual 33, 3) := by decide +kernel
theorem dX2_emptyBuckets_4 : decode cX2_emptyBuckets 4 = .ok (.aload_n 0, 1) := by decide +kernel
theorem dX2_emptyBuckets_5 : decode cX2_emptyBuckets 5 = .ok (.invokevirtual 90, 3) := by decide +kernel
theorem dX2_emptyBuckets_8 : decode cX2_emptyBuckets 8 = .ok (.isub, 1) := by decide +kernel
theorem dX2_emptyBuckets_9 : decode cX2_emptyBuckets 9 = .ok (.ireturn, 1) := by decide +kernel
set_option maxRecDepth 20000 in
theorem ggX2_filledBuckets_X2_buckets : GoodIn wsX2_filledBuckets wsX2_buckets := goodIn_r _ [5, 6, 16, 17, 18, 19, 20] (by decide +kernel) (by decide +kernel)
set_option maxRecDepth 20000 in
theorem gX2_filledBuckets_X2_buckets : GoodIn wsX2_filledBuckets (wsV RX2 33 RX2 yX2_buckets wsX2_buckets) := goodIn_app (goodIn_of _ (by decide +kernel)) ggX2_filledBuckets_X2_buckets
set_option maxRecDepth 20000 in
theorem ggX2_filledBuckets_X2_rankIn : GoodIn wsX2_filledBuckets wsX2_rankIn := goodIn_r _ [10, 11, 12, 13, 14, 4, 15, 6, 16, 17, 18, 19, 20] (by decide +kernel) (by decide +kernel)
set_option maxRecDepth 20000 in
theorem gX2_filledBuckets_X2_rankIn : GoodIn wsX2_filledBuckets (wsV RX2 49 RX2 yX2_rankIn wsX2_rankIn) := goodIn_app (goodIn_of _ (by decide +kernel)) ggX2_filledBuckets_X2_rankIn
theorem dX2_filledBuckets_0 : decode cX2_filledBuckets 0 = .ok (.iconst 0, 1) := by decide +kernel
theorem dX2_filledBuckets_1 : decode cX2_filledBuckets 1 = .ok (.istore_n 1, 1) := by decide +kernel
theorem dX2_filledBuckets_2 : decode cX2_filledBuckets 2 = .ok (.iconst 0, 1) := by decide +kernel
theorem dX2_filledBuckets_3 : decode cX2_filledBuckets 3 = .ok (.istore_n 2, 1) := by decide +kernel
theorem dX2_filledBuckets_4 : decode cX2_filledBuckets 4 = .ok (.iload_n 2, 1) := by decide +kernel
theorem dX2_filledBuckets_5 : decode cX2_filledBuckets 5 = .ok (.aload_n 0, 1) := by decide +kernel
theorem dX2_filledBuckets_6 : decode cX2_filledBuckets 6 = .ok (.invokevirtual 33, 3) := by decide +kernel
theorem dX2_filledBuckets_9 : decode cX2_filledBuckets 9 = .ok (.if_icmp .ge 20, 3) := by decide +kernel
theorem dX2_filledBuckets_12 : decode cX2_filledBuckets 12 = .ok (.aload_n 0, 1) := by decide +kernel
theorem dX2_filledBuckets_13 : decode cX2_filledBuckets 13 = .ok (.iload_n 2, 1) := by decide +kernel
theorem dX2_filledBuckets_14 : decode cX2_filledBuckets 14 = .ok (.invokevirtual 49, 3) := by decide +kernel
theorem dX2_filledBuckets_17 : decode cX2_filledBuckets 17 = .ok (.ifCond .le 6, 3) := by decide +kernel
theorem dX2_filledBuckets_20 : decode cX2_filledBuckets 20 = .ok (.iinc 1 1, 3) := by decide +kernel
theorem dX2_filledBuckets_23 : decode cX2_filledBuckets 23 = .ok (.iinc 2 1, 3) := by decide +kernel
theorem dX2_filledBuckets_26 : decode cX2_filledBuckets 26 = .ok (.goto (-22), 3) := by decide +kernel
theorem dX2_filledBuckets_29 : decode cX2_filledBuckets 29 = .ok (.iload_n 1, 1) := by decide +kernel
theorem dX2_filledBuckets_30 : decode cX2_filledBuckets 30 = .ok (.ireturn, 1) := by decide +kernel
set_option maxRecDepth 20000 in
theorem ggX2_greatestRank_X2_buckets : GoodIn wsX2_greatestRank wsX2_buckets := goodIn_r _ [9, 10, 20, 21, 22, 23, 24] (by decide +kernel) (by decide +kernel)
set_option maxRecDepth 20000 in
theorem gX2_greatestRank_X2_buckets : GoodIn wsX2_greatestRank (wsV RX2 33 RX2 yX2_buckets wsX2_buckets) := goodIn_app (goodIn_of _ (by decide +kernel)) ggX2_greatestRank_X2_buckets
set_option maxRecDepth 20000 in
theorem ggX2_greatestRank_X2_rankIn : GoodIn wsX2_greatestRank wsX2_rankIn := goodIn_r _ [14, 15, 16, 17, 18, 8, 19, 10, 20, 21, 22, 23, 24] (by decide +kernel) (by decide +kernel)
set_option maxRecDepth 20000 in
theorem gX2_greatestRank_X2_rankIn : GoodIn wsX2_greatestRank (wsV RX2 49 RX2 yX2_rankIn wsX2_rankIn) := goodIn_app (goodIn_of _ (by decide +kernel)) ggX2_greatestRank_X2_rankIn
theorem dX2_greatestRank_0 : decode cX2_greatestRank 0 = .ok (.iconst 0, 1) := by decide +kernel
theorem dX2_greatestRank_1 : decode cX2_greatestRank 1 = .ok (.istore_n 1, 1) := by decide +kernel
theorem dX2_greatestRank_2 : decode cX2_greatestRank 2 = .ok (.iconst 0, 1) := by decide +kernel
theorem dX2_greatestRank_3 : decode cX2_greatestRank 3 = .ok (.istore_n 2, 1) := by decide +kernel
theorem dX2_greatestRank_4 : decode cX2_greatestRank 4 = .ok (.iload_n 2, 1) := by decide +kernel
theorem dX2_greatestRank_5 : decode cX2_greatestRank 5 = .ok (.aload_n 0, 1) := by decide +kernel
theorem dX2_greatestRank_6 : decode cX2_greatestRank 6 = .ok (.invokevirtual 33, 3) := by decide +kernel
theorem dX2_greatestRank_9 : decode cX2_greatestRank 9 = .ok (.if_icmp .ge 19, 3) := by decide +kernel
theorem dX2_greatestRank_12 : decode cX2_greatestRank 12 = .ok (.iload_n 1, 1) := by decide +kernel
theorem dX2_greatestRank_13 : decode cX2_greatestRank 13 = .ok (.aload_n 0, 1) := by decide +kernel
theorem dX2_greatestRank_14 : decode cX2_greatestRank 14 = .ok (.iload_n 2, 1) := by decide +kernel
theorem dX2_greatestRank_15 : decode cX2_greatestRank 15 = .ok (.invokevirtual 49, 3) := by decide +kernel
theorem dX2_greatestRank_18 : decode cX2_greatestRank 18 = .ok (.invokestatic 72, 3) := by decide +kernel
theorem dX2_greatestRank_21 : decode cX2_greatestRank 21 = .ok (.istore_n 1, 1) := by decide +kernel
theorem dX2_greatestRank_22 : decode cX2_greatestRank 22 = .ok (.iinc 2 1, 3) := by decide +kernel
theorem dX2_greatestRank_25 : decode cX2_greatestRank 25 = .ok (.goto (-21), 3) := by decide +kernel
theorem dX2_greatestRank_28 : decode cX2_greatestRank 28 = .ok (.iload_n 1, 1) := by decide +kernel
theorem dX2_greatestRank_29 : decode cX2_greatestRank 29 = .ok (.ireturn, 1) := by decide +kernel
set_option maxRecDepth 20000 in
theorem ggX2_rankSum_X2_buckets : GoodIn wsX2_rankSum wsX2_buckets := goodIn_r _ [6, 7, 17, 18, 19, 20, 21] (by decide +kernel) (by decide +kernel)
set_option maxRecDepth 20000 in
theorem gX2_rankSum_X2_buckets : GoodIn wsX2_rankSum (wsV RX2 33 RX2 yX2_buckets wsX2_buckets) := goodIn_app (goodIn_of _ (by decide +kernel)) ggX2_rankSum_X2_buckets
set_option maxRecDepth 20000 in
theorem ggX2_rankSum_X2_rankIn : GoodIn wsX2_rankSum wsX2_rankIn := goodIn_r _ [11, 12, 13, 14, 15, 5, 16, 7, 17, 18, 19, 20, 21] (by decide +kernel) (by decide +kernel)
set_option maxRecDepth 20000 in
theorem gX2_rankSum_X2_rankIn : GoodIn wsX2_rankSum (wsV RX2 49 RX2 yX2_rankIn wsX2_rankIn) := goodIn_app (goodIn_of _ (by decide +kernel)) ggX2_rankSum_X2_rankIn
theorem dX2_rankSum_0 : decode cX2_rankSum 0 = .ok (.iconst 0, 1) := by decide +kernel
theorem dX2_rankSum_1 : decode cX2_rankSum 1 = .ok (.istore_n 1, 1) := by decide +kernel
theorem dX2_rankSum_2 : decode cX2_rankSum 2 = .ok (.iconst 0, 1) := by decide +kernel
theorem dX2_rankSum_3 : decode cX2_rankSum 3 = .ok (.istore_n 2, 1) := by decide +kernel
theorem dX2_rankSum_4 : decode cX2_rankSum 4 = .ok (.iload_n 2, 1) := by decide +kernel
theorem dX2_rankSum_5 : decode cX2_rankSum 5 = .ok (.aload_n 0, 1) := by decide +kernel
theorem dX2_rankSum_6 : decode cX2_rankSum 6 = .ok (.invokevirtual 33, 3) := by decide +kernel
theorem dX2_rankSum_9 : decode cX2_rankSum 9 = .ok (.if_icmp .ge 20, 3) := by decide +kernel
theorem dX2_rankSum_12 : decode cX2_rankSum 12 = .ok (.iload_n 1, 1) := by decide +kernel
theorem dX2_rankSum_13 : decode cX2_rankSum 13 = .ok (.ldc 93, 2) := by decide +kernel
theorem dX2_rankSum_15 : decode cX2_rankSum 15 = .ok (.aload_n 0, 1) := by decide +kernel
theorem dX2_rankSum_16 : decode cX2_rankSum 16 = .ok (.iload_n 2, 1) := by decide +kernel
theorem dX2_rankSum_17 : decode cX2_rankSum 17 = .ok (.invokevirtual 49, 3) := by decide +kernel
theorem dX2_rankSum_20 : decode cX2_rankSum 20 = .ok (.ishr, 1) := by decide +kernel
theorem dX2_rankSum_21 : decode cX2_rankSum 21 = .ok (.iadd, 1) := by decide +kernel
theorem dX2_rankSum_22 : decode cX2_rankSum 22 = .ok (.istore_n 1, 1) := by decide +kernel
theorem dX2_rankSum_23 : decode cX2_rankSum 23 = .ok (.iinc 2 1, 3) := by decide +kernel
theorem dX2_rankSum_26 : decode cX2_rankSum 26 = .ok (.goto (-22), 3) := by decide +kernel
theorem dX2_rankSum_29 : decode cX2_rankSum 29 = .ok (.iload_n 1, 1) := by decide +kernel
theorem dX2_rankSum_30 : decode cX2_rankSum 30 = .ok (.ireturn, 1) := by decide +kernel
set_option maxRecDepth 20000 in
theorem ggX2_rawEstimate_X2_rankSum : GoodIn wsX2_rawEstimate wsX2_rankSum := goodIn_r _ [8, 9, 10, 11, 12, 7, 13, 14, 15, 16, 17, 18, 19, 20, 21, 22, 23, 24, 25, 26, 27, 28] (by decide +kernel) (by decide +kernel)
set_option maxRecDepth 20000 in
theorem gX2_rawEstimate_X2_rankSum : GoodIn wsX2_rawEstimate (wsV RX2 96 RX2 yX2_rankSum wsX2_rankSum) := goodIn_app (goodIn_of _ (by decide +kernel)) ggX2_rawEstimate_X2_rankSum
set_option maxRecDepth 20000 in
theorem ggX2_rawEstimate_X2_buckets : GoodIn wsX2_rawEstimate wsX2_buckets := goodIn_r _ [13, 14, 24, 25, 26, 27, 28] (by decide +kernel) (by decide +kernel)
set_option maxRecDepth 20000 in
theorem gX2_rawEstimate_X2_buckets : GoodIn wsX2_rawEstimate (wsV RX2 33 RX2 yX2_buckets wsX2_buckets) := goodIn_app (goodIn_of _ (by decide +kernel)) ggX2_rawEstimate_X2_buckets
theorem dX2_rawEstimate_0 : decode cX2_rawEstimate 0 = .ok (.ldc2_w 94, 3) := by decide +kernel
theorem dX2_rawEstimate_3 : decode cX2_rawEstimate 3 = .ok (.aload_n 0, 1) := by decide +kernel
theorem dX2_rawEstimate_4 : decode cX2_rawEstimate 4 = .ok (.invokevirtual 96, 3) := by decide +kernel
theorem dX2_rawEstimate_7 : decode cX2_rawEstimate 7 = .ok (.i2l, 1) := by decide +kernel
theorem dX2_rawEstimate_8 : decode cX2_rawEstimate 8 = .ok (.lmul, 1) := by decide +kernel
theorem dX2_rawEstimate_9 : decode cX2_rawEstimate 9 = .ok (.lstore_n 1, 1) := by decide +kernel
theorem dX2_rawEstimate_10 : decode cX2_rawEstimate 10 = .ok (.lload_n 1, 1) := by decide +kernel
theorem dX2_rawEstimate_11 : decode cX2_rawEstimate 11 = .ok (.lconst 0, 1) := by decide +kernel
theorem dX2_rawEstimate_12 : decode cX2_rawEstimate 12 = .ok (.lcmp, 1) := by decide +kernel
theorem dX2_rawEstimate_13 : decode cX2_rawEstimate 13 = .ok (.ifCond .gt 5, 3) := by decide +kernel
theorem dX2_rawEstimate_16 : decode cX2_rawEstimate 16 = .ok (.iconst 0, 1) := by decide +kernel
theorem dX2_rawEstimate_17 : decode cX2_rawEstimate 17 = .ok (.ireturn, 1) := by decide +kernel
theorem dX2_rawEstimate_18 : decode cX2_rawEstimate 18 = .ok (.aload_n 0, 1) := by decide +kernel
theorem dX2_rawEstimate_19 : decode cX2_rawEstimate 19 = .ok (.invokevirtual 33, 3) := by decide +kernel
theorem dX2_rawEstimate_22 : decode cX2_rawEstimate 22 = .ok (.i2l, 1) := by decide +kernel
theorem dX2_rawEstimate_23 : decode cX2_rawEstimate 23 = .ok (.lstore_n 3, 1) := by decide +kernel
theorem dX2_rawEstimate_24 : decode cX2_rawEstimate 24 = .ok (.lload_n 3, 1) := by decide +kernel
theorem dX2_rawEstimate_25 : decode cX2_rawEstimate 25 = .ok (.lload_n 3, 1) := by decide +kernel
theorem dX2_rawEstimate_26 : decode cX2_rawEstimate 26 = .ok (.lmul, 1) := by decide +kernel
theorem dX2_rawEstimate_27 : decode cX2_rawEstimate 27 = .ok (.ldc2_w 99, 3) := by decide +kernel
theorem dX2_rawEstimate_30 : decode cX2_rawEstimate 30 = .ok (.lmul, 1) := by decide +kernel
theorem dX2_rawEstimate_31 : decode cX2_rawEstimate 31 = .ok (.ldc2_w 101, 3) := by decide +kernel
theorem dX2_rawEstimate_34 : decode cX2_rawEstimate 34 = .ok (.lmul, 1) := by decide +kernel
theorem dX2_rawEstimate_35 : decode cX2_rawEstimate 35 = .ok (.lload_n 1, 1) := by decide +kernel
theorem dX2_rawEstimate_36 : decode cX2_rawEstimate 36 = .ok (.ldiv, 1) := by decide +kernel
theorem dX2_rawEstimate_37 : decode cX2_rawEstimate 37 = .ok (.l2i, 1) := by decide +kernel
theorem dX2_rawEstimate_38 : decode cX2_rawEstimate 38 = .ok (.ireturn, 1) := by decide +kernel
set_option maxRecDepth 20000 in
theorem ggX2_estimate_X2_rawEstimate : GoodIn wsX2_estimate wsX2_rawEstimate := goodIn_r _ [5, 6, 7, 8, 9, 10, 11, 4, 12, 13, 14, 15, 16, 17, 18, 19, 20, 21, 22, 23, 24, 25, 26, 27, 44, 45, 46, 47, 48] (by decide +kernel) (by decide +kernel)
set_option maxRecDepth 20000 in
theorem gX2_estimate_X2_rawEstimate : GoodIn wsX2_estimate (wsV RX2 103 RX2 yX2_rawEstimate wsX2_rawEstimate) := goodIn_app (goodIn_of _ (by decide +kernel)) ggX2_estimate_X2_rawEstimate
set_option maxRecDepth 20000 in
theorem ggX2_estimate_X2_emptyBuckets : GoodIn wsX2_estimate wsX2_emptyBuckets := goodIn_r _ [31, 14, 15, 16, 4, 17, 18, 32, 33, 34, 35, 19, 20, 21, 22, 23, 24, 25, 26, 27, 44, 45, 46, 47, 48] (by decide +kernel) (by decide +kernel)
set_option maxRecDepth 20000 in
theorem gX2_estimate_X2_emptyBuckets : GoodIn wsX2_estimate (wsV RX2 106 RX2 yX2_emptyBuckets wsX2_emptyBuckets) := goodIn_app (goodIn_of _ (by decide +kernel)) ggX2_estimate_X2_emptyBuckets
set_option maxRecDepth 20000 in
theorem ggX2_estimate_X2_buckets : GoodIn wsX2_estimate wsX2_buckets := goodIn_r _ [17, 18, 44, 45, 46, 47, 48] (by decide +kernel) (by decide +kernel)
set_option maxRecDepth 20000 in
theorem gX2_estimate_X2_buckets : GoodIn wsX2_estimate (wsV RX2 33 RX2 yX2_buckets wsX2_buckets) := goodIn_app (goodIn_of _ (by decide +kernel)) ggX2_estimate_X2_buckets
set_option maxRecDepth 20000 in
theorem ggX2_estimate_X2_estimateByEmpty : GoodIn wsX2_estimate wsX2_estimateByEmpty := goodIn_r _ [39, 40, 41, 42, 43, 14, 15, 16, 4, 17, 18, 44, 45, 46, 47, 48] (by decide +kernel) (by decide +kernel)
set_option maxRecDepth 20000 in
theorem gX2_estimate_X2_estimateByEmpty : GoodIn wsX2_estimate (wsV RX2 109 RX2 yX2_estimateByEmpty wsX2_estimateByEmpty) := goodIn_app (goodIn_of _ (by decide +kernel)) ggX2_estimate_X2_estimateByEmpty
theorem dX2_estimate_0 : decode cX2_estimate 0 = .ok (.aload_n 0, 1) := by decide +kernel
theorem dX2_estimate_1 : decode cX2_estimate 1 = .ok (.invokevirtual 103, 3) := by decide +kernel
theorem dX2_estimate_4 : decode cX2_estimate 4 = .ok (.istore_n 1, 1) := by decide +kernel
theorem dX2_estimate_5 : decode cX2_estimate 5 = .ok (.aload_n 0, 1) := by decide +kernel
theorem dX2_estimate_6 : decode cX2_estimate 6 = .ok (.invokevirtual 106, 3) := by decide +kernel
theorem dX2_estimate_9 : decode cX2_estimate 9 = .ok (.istore_n 2, 1) := by decide +kernel
theorem dX2_estimate_10 : decode cX2_estimate 10 = .ok (.iload_n 2, 1) := by decide +kernel
theorem dX2_estimate_11 : decode cX2_estimate 11 = .ok (.ifCond .le 21, 3) := by decide +kernel
theorem dX2_estimate_14 : decode cX2_estimate 14 = .ok (.iload_n 1, 1) := by decide +kernel
theorem dX2_estimate_15 : decode cX2_estimate 15 = .ok (.iconst 5, 1) := by decide +kernel
theorem dX2_estimate_16 : decode cX2_estimate 16 = .ok (.aload_n 0, 1) := by decide +kernel
theorem dX2_estimate_17 : decode cX2_estimate 17 = .ok (.invokevirtual 33, 3) := by decide +kernel
theorem dX2_estimate_20 : decode cX2_estimate 20 = .ok (.imul, 1) := by decide +kernel
theorem dX2_estimate_21 : decode cX2_estimate 21 = .ok (.iconst 2, 1) := by decide +kernel
theorem dX2_estimate_22 : decode cX2_estimate 22 = .ok (.idiv, 1) := by decide +kernel
theorem dX2_estimate_23 : decode cX2_estimate 23 = .ok (.if_icmp .gt 9, 3) := by decide +kernel
theorem dX2_estimate_26 : decode cX2_estimate 26 = .ok (.aload_n 0, 1) := by decide +kernel
theorem dX2_estimate_27 : decode cX2_estimate 27 = .ok (.iload_n 2, 1) := by decide +kernel
theorem dX2_estimate_28 : decode cX2_estimate 28 = .ok (.invokevirtual 109, 3) := by decide +kernel
theorem dX2_estimate_31 : decode cX2_estimate 31 = .ok (.ireturn, 1) := by decide +kernel
theorem dX2_estimate_32 : decode cX2_estimate 32 = .ok (.iload_n 1, 1) := by decide +kernel
theorem dX2_estimate_33 : decode cX2_estimate 33 = .ok (.ireturn, 1) := by decide +kernel
set_option maxRecDepth 20000 in
theorem ggX2_estimateByEmpty_X2_buckets : GoodIn wsX2_estimateByEmpty wsX2_buckets := goodIn_r _ [9, 10, 11, 12, 13, 14, 15] (by decide +kernel) (by decide +kernel)
set_option maxRecDepth 20000 in
theorem gX2_estimateByEmpty_X2_buckets : GoodIn wsX2_estimateByEmpty (wsV RX2 33 RX2 yX2_buckets wsX2_buckets) := goodIn_app (goodIn_of _ (by decide +kernel)) ggX2_estimateByEmpty_X2_buckets
theorem dX2_estimateByEmpty_0 : decode cX2_estimateByEmpty 0 = .ok (.iconst 0, 1) := by decide +kernel
theorem dX2_estimateByEmpty_1 : decode cX2_estimateByEmpty 1 = .ok (.istore_n 2, 1) := by decide +kernel
theorem dX2_estimateByEmpty_2 : decode cX2_estimateByEmpty 2 = .ok (.iload_n 1, 1) := by decide +kernel
theorem dX2_estimateByEmpty_3 : decode cX2_estimateByEmpty 3 = .ok (.iconst 0, 1) := by decide +kernel
theorem dX2_estimateByEmpty_4 : decode cX2_estimateByEmpty 4 = .ok (.invokestatic 72, 3) := by decide +kernel
theorem dX2_estimateByEmpty_7 : decode cX2_estimateByEmpty 7 = .ok (.iconst 1, 1) := by decide +kernel
theorem dX2_estimateByEmpty_8 : decode cX2_estimateByEmpty 8 = .ok (.iadd, 1) := by decide +kernel
theorem dX2_estimateByEmpty_9 : decode cX2_estimateByEmpty 9 = .ok (.istore_n 3, 1) := by decide +kernel
theorem dX2_estimateByEmpty_10 : decode cX2_estimateByEmpty 10 = .ok (.iload_n 3, 1) := by decide +kernel
theorem dX2_estimateByEmpty_11 : decode cX2_estimateByEmpty 11 = .ok (.aload_n 0, 1) := by decide +kernel
theorem dX2_estimateByEmpty_12 : decode cX2_estimateByEmpty 12 = .ok (.invokevirtual 33, 3) := by decide +kernel
theorem dX2_estimateByEmpty_15 : decode cX2_estimateByEmpty 15 = .ok (.if_icmp .gt 18, 3) := by decide +kernel
theorem dX2_estimateByEmpty_18 : decode cX2_estimateByEmpty 18 = .ok (.iload_n 2, 1) := by decide +kernel
theorem dX2_estimateByEmpty_19 : decode cX2_estimateByEmpty 19 = .ok (.aload_n 0, 1) := by decide +kernel
theorem dX2_estimateByEmpty_20 : decode cX2_estimateByEmpty 20 = .ok (.invokevirtual 33, 3) := by decide +kernel
theorem dX2_estimateByEmpty_23 : decode cX2_estimateByEmpty 23 = .ok (.iload_n 3, 1) := by decide +kernel
theorem dX2_estimateByEmpty_24 : decode cX2_estimateByEmpty 24 = .ok (.idiv, 1) := by decide +kernel
theorem dX2_estimateByEmpty_25 : decode cX2_estimateByEmpty 25 = .ok (.iadd, 1) := by decide +kernel
theorem dX2_estimateByEmpty_26 : decode cX2_estimateByEmpty 26 = .ok (.istore_n 2, 1) := by decide +kernel
theorem dX2_estimateByEmpty_27 : decode cX2_estimateByEmpty 27 = .ok (.iinc 3 1, 3) := by decide +kernel
theorem dX2_estimateByEmpty_30 : decode cX2_estimateByEmpty 30 = .ok (.goto (-20), 3) := by decide +kernel
theorem dX2_estimateByEmpty_33 : decode cX2_estimateByEmpty 33 = .ok (.iload_n 2, 1) := by decide +kernel
theorem dX2_estimateByEmpty_34 : decode cX2_estimateByEmpty 34 = .ok (.ireturn, 1) := by decide +kernel
set_option maxRecDepth 20000 in
theorem ggX2_toldError_X2_rootOfBuckets : GoodIn wsX2_toldError wsX2_rootOfBuckets := goodIn_r _ [7, 8, 9, 10, 6, 11, 12, 54, 55, 56, 57, 58] (by decide +kernel) (by decide +kernel)
set_option maxRecDepth 20000 in
theorem gX2_toldError_X2_rootOfBuckets : GoodIn wsX2_toldError (wsV RX2 114 RX2 yX2_rootOfBuckets wsX2_rootOfBuckets) := goodIn_app (goodIn_of _ (by decide +kernel)) ggX2_toldError_X2_rootOfBuckets
set_option maxRecDepth 20000 in
theorem ggX2_toldError_X2_estimate : GoodIn wsX2_toldError wsX2_estimate := goodIn_r _ [16, 17, 18, 19, 6, 20, 21, 22, 23, 24, 25, 26, 27, 28, 8, 9, 10, 11, 12, 29, 30, 31, 32, 33, 34, 35, 36, 37, 38, 39, 40, 41, 42, 43, 44, 45, 46, 47, 48, 49, 50, 51, 52, 53, 54, 55, 56, 57, 58] (by decide +kernel) (by decide +kernel)
set_option maxRecDepth 20000 in
theorem gX2_toldError_X2_estimate : GoodIn wsX2_toldError (wsV RX2 117 RX2 yX2_estimate wsX2_estimate) := goodIn_app (goodIn_of _ (by decide +kernel)) ggX2_toldError_X2_estimate
theorem dX2_toldError_0 : decode cX2_toldError 0 = .ok (.ldc2_w 112, 3) := by decide +kernel
theorem dX2_toldError_3 : decode cX2_toldError 3 = .ok (.aload_n 0, 1) := by decide +kernel
theorem dX2_toldError_4 : decode cX2_toldError 4 = .ok (.invokevirtual 114, 3) := by decide +kernel
theorem dX2_toldError_7 : decode cX2_toldError 7 = .ok (.i2l, 1) := by decide +kernel
theorem dX2_toldError_8 : decode cX2_toldError 8 = .ok (.lmul, 1) := by decide +kernel
theorem dX2_toldError_9 : decode cX2_toldError 9 = .ok (.lstore_n 1, 1) := by decide +kernel
theorem dX2_toldError_10 : decode cX2_toldError 10 = .ok (.lload_n 1, 1) := by decide +kernel
theorem dX2_toldError_11 : decode cX2_toldError 11 = .ok (.lconst 0, 1) := by decide +kernel
theorem dX2_toldError_12 : decode cX2_toldError 12 = .ok (.lcmp, 1) := by decide +kernel
theorem dX2_toldError_13 : decode cX2_toldError 13 = .ok (.ifCond .gt 5, 3) := by decide +kernel
theorem dX2_toldError_16 : decode cX2_toldError 16 = .ok (.iconst 0, 1) := by decide +kernel
theorem dX2_toldError_17 : decode cX2_toldError 17 = .ok (.ireturn, 1) := by decide +kernel
theorem dX2_toldError_18 : decode cX2_toldError 18 = .ok (.aload_n 0, 1) := by decide +kernel
theorem dX2_toldError_19 : decode cX2_toldError 19 = .ok (.invokevirtual 117, 3) := by decide +kernel
theorem dX2_toldError_22 : decode cX2_toldError 22 = .ok (.i2l, 1) := by decide +kernel
theorem dX2_toldError_23 : decode cX2_toldError 23 = .ok (.ldc2_w 120, 3) := by decide +kernel
theorem dX2_toldError_26 : decode cX2_toldError 26 = .ok (.lmul, 1) := by decide +kernel
theorem dX2_toldError_27 : decode cX2_toldError 27 = .ok (.lload_n 1, 1) := by decide +kernel
theorem dX2_toldError_28 : decode cX2_toldError 28 = .ok (.ldiv, 1) := by decide +kernel
theorem dX2_toldError_29 : decode cX2_toldError 29 = .ok (.l2i, 1) := by decide +kernel
theorem dX2_toldError_30 : decode cX2_toldError 30 = .ok (.ireturn, 1) := by decide +kernel
set_option maxRecDepth 20000 in
theorem ggX2_rootOfBuckets_X2_buckets : GoodIn wsX2_rootOfBuckets wsX2_buckets := goodIn_r _ [5, 6, 7, 8, 9, 10, 11] (by decide +kernel) (by decide +kernel)
set_option maxRecDepth 20000 in
theorem gX2_rootOfBuckets_X2_buckets : GoodIn wsX2_rootOfBuckets (wsV RX2 33 RX2 yX2_buckets wsX2_buckets) := goodIn_app (goodIn_of _ (by decide +kernel)) ggX2_rootOfBuckets_X2_buckets
theorem dX2_rootOfBuckets_0 : decode cX2_rootOfBuckets 0 = .ok (.iconst 0, 1) := by decide +kernel
theorem dX2_rootOfBuckets_1 : decode cX2_rootOfBuckets 1 = .ok (.istore_n 1, 1) := by decide +kernel
theorem dX2_rootOfBuckets_2 : decode cX2_rootOfBuckets 2 = .ok (.iconst 1, 1) := by decide +kernel
theorem dX2_rootOfBuckets_3 : decode cX2_rootOfBuckets 3 = .ok (.istore_n 2, 1) := by decide +kernel
theorem dX2_rootOfBuckets_4 : decode cX2_rootOfBuckets 4 = .ok (.iload_n 2, 1) := by decide +kernel
theorem dX2_rootOfBuckets_5 : decode cX2_rootOfBuckets 5 = .ok (.iload_n 2, 1) := by decide +kernel
theorem dX2_rootOfBuckets_6 : decode cX2_rootOfBuckets 6 = .ok (.imul, 1) := by decide +kernel
theorem dX2_rootOfBuckets_7 : decode cX2_rootOfBuckets 7 = .ok (.aload_n 0, 1) := by decide +kernel
theorem dX2_rootOfBuckets_8 : decode cX2_rootOfBuckets 8 = .ok (.invokevirtual 33, 3) := by decide +kernel
theorem dX2_rootOfBuckets_11 : decode cX2_rootOfBuckets 11 = .ok (.if_icmp .gt 17, 3) := by decide +kernel
theorem dX2_rootOfBuckets_14 : decode cX2_rootOfBuckets 14 = .ok (.iload_n 2, 1) := by decide +kernel
theorem dX2_rootOfBuckets_15 : decode cX2_rootOfBuckets 15 = .ok (.bipush 64, 2) := by decide +kernel
theorem dX2_rootOfBuckets_17 : decode cX2_rootOfBuckets 17 = .ok (.if_icmp .gt 11, 3) := by decide +kernel
theorem dX2_rootOfBuckets_20 : decode cX2_rootOfBuckets 20 = .ok (.iload_n 2, 1) := by decide +kernel
theorem dX2_rootOfBuckets_21 : decode cX2_rootOfBuckets 21 = .ok (.istore_n 1, 1) := by decide +kernel
theorem dX2_rootOfBuckets_22 : decode cX2_rootOfBuckets 22 = .ok (.iinc 2 1, 3) := by decide +kernel
theorem dX2_rootOfBuckets_25 : decode cX2_rootOfBuckets 25 = .ok (.goto (-21), 3) := by decide +kernel
theorem dX2_rootOfBuckets_28 : decode cX2_rootOfBuckets 28 = .ok (.iload_n 1, 1) := by decide +kernel
theorem dX2_rootOfBuckets_29 : decode cX2_rootOfBuckets 29 = .ok (.ireturn, 1) := by decide +kernel
set_option maxRecDepth 20000 in
theorem ggX2_bucketsWithRank_X2_buckets : GoodIn wsX2_bucketsWithRank wsX2_buckets := goodIn_r _ [5, 6, 16, 17, 18, 19, 20] (by decide +kernel) (by decide +kernel)
set_option maxRecDepth 20000 in
theorem gX2_bucketsWithRank_X2_buckets : GoodIn wsX2_bucketsWithRank (wsV RX2 33 RX2 yX2_buckets wsX2_buckets) := goodIn_app (goodIn_of _ (by decide +kernel)) ggX2_bucketsWithRank_X2_buckets
set_option maxRecDepth 20000 in
theorem ggX2_bucketsWithRank_X2_rankIn : GoodIn wsX2_bucketsWithRank wsX2_rankIn := goodIn_r _ [10, 11, 12, 13, 14, 4, 15, 6, 16, 17, 18, 19, 20] (by decide +kernel) (by decide +kernel)
set_option maxRecDepth 20000 in
theorem gX2_bucketsWithRank_X2_rankIn : GoodIn wsX2_bucketsWithRank (wsV RX2 49 RX2 yX2_rankIn wsX2_rankIn) := goodIn_app (goodIn_of _ (by decide +kernel)) ggX2_bucketsWithRank_X2_rankIn
theorem dX2_bucketsWithRank_0 : decode cX2_bucketsWithRank 0 = .ok (.lconst 0, 1) := by decide +kernel
theorem dX2_bucketsWithRank_1 : decode cX2_bucketsWithRank 1 = .ok (.lstore_n 2, 1) := by decide +kernel
theorem dX2_bucketsWithRank_2 : decode cX2_bucketsWithRank 2 = .ok (.iconst 0, 1) := by decide +kernel
theorem dX2_bucketsWithRank_3 : decode cX2_bucketsWithRank 3 = .ok (.istore 4, 2) := by decide +kernel
theorem dX2_bucketsWithRank_5 : decode cX2_bucketsWithRank 5 = .ok (.iload 4, 2) := by decide +kernel
theorem dX2_bucketsWithRank_7 : decode cX2_bucketsWithRank 7 = .ok (.aload_n 0, 1) := by decide +kernel
theorem dX2_bucketsWithRank_8 : decode cX2_bucketsWithRank 8 = .ok (.invokevirtual 33, 3) := by decide +kernel
theorem dX2_bucketsWithRank_11 : decode cX2_bucketsWithRank 11 = .ok (.if_icmp .ge 26, 3) := by decide +kernel
theorem dX2_bucketsWithRank_14 : decode cX2_bucketsWithRank 14 = .ok (.aload_n 0, 1) := by decide +kernel
theorem dX2_bucketsWithRank_15 : decode cX2_bucketsWithRank 15 = .ok (.iload 4, 2) := by decide +kernel
theorem dX2_bucketsWithRank_17 : decode cX2_bucketsWithRank 17 = .ok (.invokevirtual 49, 3) := by decide +kernel
theorem dX2_bucketsWithRank_20 : decode cX2_bucketsWithRank 20 = .ok (.iload_n 1, 1) := by decide +kernel
theorem dX2_bucketsWithRank_21 : decode cX2_bucketsWithRank 21 = .ok (.if_icmp .ne 10, 3) := by decide +kernel
theorem dX2_bucketsWithRank_24 : decode cX2_bucketsWithRank 24 = .ok (.lload_n 2, 1) := by decide +kernel
theorem dX2_bucketsWithRank_25 : decode cX2_bucketsWithRank 25 = .ok (.lconst 1, 1) := by decide +kernel
theorem dX2_bucketsWithRank_26 : decode cX2_bucketsWithRank 26 = .ok (.iload 4, 2) := by decide +kernel
theorem dX2_bucketsWithRank_28 : decode cX2_bucketsWithRank 28 = .ok (.lshl, 1) := by decide +kernel
theorem dX2_bucketsWithRank_29 : decode cX2_bucketsWithRank 29 = .ok (.lor, 1) := by decide +kernel
theorem dX2_bucketsWithRank_30 : decode cX2_bucketsWithRank 30 = .ok (.lstore_n 2, 1) := by decide +kernel
theorem dX2_bucketsWithRank_31 : decode cX2_bucketsWithRank 31 = .ok (.iinc 4 1, 3) := by decide +kernel
theorem dX2_bucketsWithRank_34 : decode cX2_bucketsWithRank 34 = .ok (.goto (-29), 3) := by decide +kernel
theorem dX2_bucketsWithRank_37 : decode cX2_bucketsWithRank 37 = .ok (.lload_n 2, 1) := by decide +kernel
theorem dX2_bucketsWithRank_38 : decode cX2_bucketsWithRank 38 = .ok (.lreturn, 1) := by decide +kernel
set_option maxRecDepth 20000 in
theorem ggX2_sameBuckets_X2_buckets : GoodIn wsX2_sameBuckets wsX2_buckets := goodIn_r _ [5, 6, 16, 17, 18, 19, 20] (by decide +kernel) (by decide +kernel)
set_option maxRecDepth 20000 in
theorem gX2_sameBuckets_X2_buckets : GoodIn wsX2_sameBuckets (wsV RX2 33 RX2 yX2_buckets wsX2_buckets) := goodIn_app (goodIn_of _ (by decide +kernel)) ggX2_sameBuckets_X2_buckets
set_option maxRecDepth 20000 in
theorem ggX2_sameBuckets_X2_rankIn : GoodIn wsX2_sameBuckets wsX2_rankIn := goodIn_r _ [10, 11, 12, 13, 14, 4, 15, 6, 16, 17, 18, 19, 20] (by decide +kernel) (by decide +kernel)
set_option maxRecDepth 20000 in
theorem gX2_sameBuckets_X2_rankIn : GoodIn wsX2_sameBuckets (wsV RX2 49 RX2 yX2_rankIn wsX2_rankIn) := goodIn_app (goodIn_of _ (by decide +kernel)) ggX2_sameBuckets_X2_rankIn
theorem dX2_sameBuckets_0 : decode cX2_sameBuckets 0 = .ok (.iconst 0, 1) := by decide +kernel
theorem dX2_sameBuckets_1 : decode cX2_sameBuckets 1 = .ok (.istore_n 2, 1) := by decide +kernel
theorem dX2_sameBuckets_2 : decode cX2_sameBuckets 2 = .ok (.iconst 0, 1) := by decide +kernel
theorem dX2_sameBuckets_3 : decode cX2_sameBuckets 3 = .ok (.istore_n 3, 1) := by decide +kernel
theorem dX2_sameBuckets_4 : decode cX2_sameBuckets 4 = .ok (.iload_n 3, 1) := by decide +kernel
theorem dX2_sameBuckets_5 : decode cX2_sameBuckets 5 = .ok (.aload_n 0, 1) := by decide +kernel
theorem dX2_sameBuckets_6 : decode cX2_sameBuckets 6 = .ok (.invokevirtual 33, 3) := by decide +kernel
theorem dX2_sameBuckets_9 : decode cX2_sameBuckets 9 = .ok (.if_icmp .ge 25, 3) := by decide +kernel
theorem dX2_sameBuckets_12 : decode cX2_sameBuckets 12 = .ok (.aload_n 0, 1) := by decide +kernel
theorem dX2_sameBuckets_13 : decode cX2_sameBuckets 13 = .ok (.iload_n 3, 1) := by decide +kernel
theorem dX2_sameBuckets_14 : decode cX2_sameBuckets 14 = .ok (.invokevirtual 49, 3) := by decide +kernel
theorem dX2_sameBuckets_17 : decode cX2_sameBuckets 17 = .ok (.aload_n 1, 1) := by decide +kernel
theorem dX2_sameBuckets_18 : decode cX2_sameBuckets 18 = .ok (.iload_n 3, 1) := by decide +kernel
theorem dX2_sameBuckets_19 : decode cX2_sameBuckets 19 = .ok (.invokevirtual 49, 3) := by decide +kernel
theorem dX2_sameBuckets_22 : decode cX2_sameBuckets 22 = .ok (.if_icmp .ne 6, 3) := by decide +kernel
theorem dX2_sameBuckets_25 : decode cX2_sameBuckets 25 = .ok (.iinc 2 1, 3) := by decide +kernel
theorem dX2_sameBuckets_28 : decode cX2_sameBuckets 28 = .ok (.iinc 3 1, 3) := by decide +kernel
theorem dX2_sameBuckets_31 : decode cX2_sameBuckets 31 = .ok (.goto (-27), 3) := by decide +kernel
theorem dX2_sameBuckets_34 : decode cX2_sameBuckets 34 = .ok (.iload_n 2, 1) := by decide +kernel
theorem dX2_sameBuckets_35 : decode cX2_sameBuckets 35 = .ok (.ireturn, 1) := by decide +kernel
set_option maxRecDepth 20000 in
theorem ggX3_init_X2_init : GoodIn wsX3_init wsX2_init := goodIn_r _ [10, 11, 2, 3, 12, 13, 14, 15, 16, 17, 20, 21, 22, 23, 24] (by decide +kernel) (by decide +kernel)
set_option maxRecDepth 20000 in
theorem gX3_init_X2_init_n21 : GoodIn wsX3_init (wsX2_init) := ggX3_init_X2_init
theorem dX3_init_0 : decode cX3_init 0 = .ok (.aload_n 0, 1) := by decide +kernel
theorem dX3_init_1 : decode cX3_init 1 = .ok (.invokespecial 3, 3) := by decide +kernel
theorem dX3_init_4 : decode cX3_init 4 = .ok (.aload_n 0, 1) := by decide +kernel
theorem dX3_init_5 : decode cX3_init 5 = .ok (.sipush 12345, 3) := by decide +kernel
theorem dX3_init_8 : decode cX3_init 8 = .ok (.putfield 9, 3) := by decide +kernel
theorem dX3_init_11 : decode cX3_init 11 = .ok (.aload_n 0, 1) := by decide +kernel
theorem dX3_init_12 : decode cX3_init 12 = .ok (.bipush 6, 2) := by decide +kernel
theorem dX3_init_14 : decode cX3_init 14 = .ok (.anewarray 15, 3) := by decide +kernel
theorem dX3_init_17 : decode cX3_init 17 = .ok (.putfield 17, 3) := by decide +kernel
theorem dX3_init_20 : decode cX3_init 20 = .ok (.iconst 0, 1) := by decide +kernel
theorem dX3_init_21 : decode cX3_init 21 = .ok (.istore_n 1, 1) := by decide +kernel
theorem dX3_init_22 : decode cX3_init 22 = .ok (.iload_n 1, 1) := by decide +kernel
theorem dX3_init_23 : decode cX3_init 23 = .ok (.bipush 6, 2) := by decide +kernel
theorem dX3_init_25 : decode cX3_init 25 = .ok (.if_icmp .ge 22, 3) := by decide +kernel
theorem dX3_init_28 : decode cX3_init 28 = .ok (.aload_n 0, 1) := by decide +kernel
theorem dX3_init_29 : decode cX3_init 29 = .ok (.getfield 17, 3) := by decide +kernel
theorem dX3_init_32 : decode cX3_init 32 = .ok (.iload_n 1, 1) := by decide +kernel
theorem dX3_init_33 : decode cX3_init 33 = .ok (.new 15, 3) := by decide +kernel
theorem dX3_init_36 : decode cX3_init 36 = .ok (.dup, 1) := by decide +kernel
theorem dX3_init_37 : decode cX3_init 37 = .ok (.invokespecial 21, 3) := by decide +kernel
theorem dX3_init_40 : decode cX3_init 40 = .ok (.aastore, 1) := by decide +kernel
theorem dX3_init_41 : decode cX3_init 41 = .ok (.iinc 1 1, 3) := by decide +kernel
theorem dX3_init_44 : decode cX3_init 44 = .ok (.goto (-22), 3) := by decide +kernel
theorem dX3_init_47 : decode cX3_init 47 = .ok (.return_, 1) := by decide +kernel
theorem dX3_sketchAt_0 : decode cX3_sketchAt 0 = .ok (.iload_n 1, 1) := by decide +kernel
theorem dX3_sketchAt_1 : decode cX3_sketchAt 1 = .ok (.ifCond .lt 21, 3) := by decide +kernel
theorem dX3_sketchAt_4 : decode cX3_sketchAt 4 = .ok (.iload_n 1, 1) := by decide +kernel
theorem dX3_sketchAt_5 : decode cX3_sketchAt 5 = .ok (.aload_n 0, 1) := by decide +kernel
theorem dX3_sketchAt_6 : decode cX3_sketchAt 6 = .ok (.getfield 17, 3) := by decide +kernel
theorem dX3_sketchAt_9 : decode cX3_sketchAt 9 = .ok (.arraylength, 1) := by decide +kernel
theorem dX3_sketchAt_10 : decode cX3_sketchAt 10 = .ok (.if_icmp .ge 12, 3) := by decide +kernel
theorem dX3_sketchAt_13 : decode cX3_sketchAt 13 = .ok (.aload_n 0, 1) := by decide +kernel
theorem dX3_sketchAt_14 : decode cX3_sketchAt 14 = .ok (.getfield 17, 3) := by decide +kernel
theorem dX3_sketchAt_17 : decode cX3_sketchAt 17 = .ok (.iload_n 1, 1) := by decide +kernel
theorem dX3_sketchAt_18 : decode cX3_sketchAt 18 = .ok (.aaload, 1) := by decide +kernel
theorem dX3_sketchAt_19 : decode cX3_sketchAt 19 = .ok (.goto 4, 3) := by decide +kernel
theorem dX3_sketchAt_22 : decode cX3_sketchAt 22 = .ok (.aconst_null, 1) := by decide +kernel
theorem dX3_sketchAt_23 : decode cX3_sketchAt 23 = .ok (.areturn, 1) := by decide +kernel
set_option maxRecDepth 20000 in
theorem ggX3_changeSalt_X2_startAgain : GoodIn wsX3_changeSalt wsX2_startAgain := goodIn_r _ [7, 8, 9, 10, 11, 12, 13, 14, 15, 18, 19, 20, 21, 22] (by decide +kernel) (by decide +kernel)
set_option maxRecDepth 20000 in
theorem gX3_changeSalt_X2_startAgain : GoodIn wsX3_changeSalt (wsV RX3 25 RX2 yX2_startAgain wsX2_startAgain) := goodIn_app (goodIn_of _ (by decide +kernel)) ggX3_changeSalt_X2_startAgain
theorem dX3_changeSalt_0 : decode cX3_changeSalt 0 = .ok (.aload_n 0, 1) := by decide +kernel
theorem dX3_changeSalt_1 : decode cX3_changeSalt 1 = .ok (.iload_n 1, 1) := by decide +kernel
theorem dX3_changeSalt_2 : decode cX3_changeSalt 2 = .ok (.putfield 9, 3) := by decide +kernel
theorem dX3_changeSalt_5 : decode cX3_changeSalt 5 = .ok (.aload_n 0, 1) := by decide +kernel
theorem dX3_changeSalt_6 : decode cX3_changeSalt 6 = .ok (.getfield 17, 3) := by decide +kernel
theorem dX3_changeSalt_9 : decode cX3_changeSalt 9 = .ok (.astore_n 2, 1) := by decide +kernel
theorem dX3_changeSalt_10 : decode cX3_changeSalt 10 = .ok (.aload_n 2, 1) := by decide +kernel
theorem dX3_changeSalt_11 : decode cX3_changeSalt 11 = .ok (.arraylength, 1) := by decide +kernel
theorem dX3_changeSalt_12 : decode cX3_changeSalt 12 = .ok (.istore_n 3, 1) := by decide +kernel
theorem dX3_changeSalt_13 : decode cX3_changeSalt 13 = .ok (.iconst 0, 1) := by decide +kernel
theorem dX3_changeSalt_14 : decode cX3_changeSalt 14 = .ok (.istore 4, 2) := by decide +kernel
theorem dX3_changeSalt_16 : decode cX3_changeSalt 16 = .ok (.iload 4, 2) := by decide +kernel
theorem dX3_changeSalt_18 : decode cX3_changeSalt 18 = .ok (.iload_n 3, 1) := by decide +kernel
theorem dX3_changeSalt_19 : decode cX3_changeSalt 19 = .ok (.if_icmp .ge 25, 3) := by decide +kernel
theorem dX3_changeSalt_22 : decode cX3_changeSalt 22 = .ok (.aload_n 2, 1) := by decide +kernel
theorem dX3_changeSalt_23 : decode cX3_changeSalt 23 = .ok (.iload 4, 2) := by decide +kernel
theorem dX3_changeSalt_25 : decode cX3_changeSalt 25 = .ok (.aaload, 1) := by decide +kernel
theorem dX3_changeSalt_26 : decode cX3_changeSalt 26 = .ok (.astore 5, 2) := by decide +kernel
theorem dX3_changeSalt_28 : decode cX3_changeSalt 28 = .ok (.aload 5, 2) := by decide +kernel
theorem dX3_changeSalt_30 : decode cX3_changeSalt 30 = .ok (.aload 5, 2) := by decide +kernel
theorem dX3_changeSalt_32 : decode cX3_changeSalt 32 = .ok (.getfield 22, 3) := by decide +kernel
theorem dX3_changeSalt_35 : decode cX3_changeSalt 35 = .ok (.invokevirtual 25, 3) := by decide +kernel
theorem dX3_changeSalt_38 : decode cX3_changeSalt 38 = .ok (.iinc 4 1, 3) := by decide +kernel
theorem dX3_changeSalt_41 : decode cX3_changeSalt 41 = .ok (.goto (-25), 3) := by decide +kernel
theorem dX3_changeSalt_44 : decode cX3_changeSalt 44 = .ok (.return_, 1) := by decide +kernel
set_option maxRecDepth 20000 in
theorem ggX3_copyFrom_X2_copyFrom : GoodIn wsX3_copyFrom wsX2_copyFrom := goodIn_r _ [7, 8, 9, 10, 11, 12, 13, 14, 15, 16, 19, 20, 21, 22, 23] (by decide +kernel) (by decide +kernel)
set_option maxRecDepth 20000 in
theorem gX3_copyFrom_X2_copyFrom : GoodIn wsX3_copyFrom (wsV RX3 29 RX2 yX2_copyFrom wsX2_copyFrom) := goodIn_app (goodIn_of _ (by decide +kernel)) ggX3_copyFrom_X2_copyFrom
theorem dX3_copyFrom_0 : decode cX3_copyFrom 0 = .ok (.aload_n 0, 1) := by decide +kernel
theorem dX3_copyFrom_1 : decode cX3_copyFrom 1 = .ok (.aload_n 1, 1) := by decide +kernel
theorem dX3_copyFrom_2 : decode cX3_copyFrom 2 = .ok (.getfield 9, 3) := by decide +kernel
theorem dX3_copyFrom_5 : decode cX3_copyFrom 5 = .ok (.putfield 9, 3) := by decide +kernel
theorem dX3_copyFrom_8 : decode cX3_copyFrom 8 = .ok (.iconst 0, 1) := by decide +kernel
theorem dX3_copyFrom_9 : decode cX3_copyFrom 9 = .ok (.istore_n 2, 1) := by decide +kernel
theorem dX3_copyFrom_10 : decode cX3_copyFrom 10 = .ok (.iload_n 2, 1) := by decide +kernel
theorem dX3_copyFrom_11 : decode cX3_copyFrom 11 = .ok (.bipush 6, 2) := by decide +kernel
theorem dX3_copyFrom_13 : decode cX3_copyFrom 13 = .ok (.if_icmp .ge 24, 3) := by decide +kernel
theorem dX3_copyFrom_16 : decode cX3_copyFrom 16 = .ok (.aload_n 0, 1) := by decide +kernel
theorem dX3_copyFrom_17 : decode cX3_copyFrom 17 = .ok (.getfield 17, 3) := by decide +kernel
theorem dX3_copyFrom_20 : decode cX3_copyFrom 20 = .ok (.iload_n 2, 1) := by decide +kernel
theorem dX3_copyFrom_21 : decode cX3_copyFrom 21 = .ok (.aaload, 1) := by decide +kernel
theorem dX3_copyFrom_22 : decode cX3_copyFrom 22 = .ok (.aload_n 1, 1) := by decide +kernel
theorem dX3_copyFrom_23 : decode cX3_copyFrom 23 = .ok (.getfield 17, 3) := by decide +kernel
theorem dX3_copyFrom_26 : decode cX3_copyFrom 26 = .ok (.iload_n 2, 1) := by decide +kernel
theorem dX3_copyFrom_27 : decode cX3_copyFrom 27 = .ok (.aaload, 1) := by decide +kernel
theorem dX3_copyFrom_28 : decode cX3_copyFrom 28 = .ok (.invokevirtual 29, 3) := by decide +kernel
theorem dX3_copyFrom_31 : decode cX3_copyFrom 31 = .ok (.iinc 2 1, 3) := by decide +kernel
theorem dX3_copyFrom_34 : decode cX3_copyFrom 34 = .ok (.goto (-24), 3) := by decide +kernel
theorem dX3_copyFrom_37 : decode cX3_copyFrom 37 = .ok (.return_, 1) := by decide +kernel
set_option maxRecDepth 20000 in
theorem ggX3_filledSketches_X2_filledBuckets : GoodIn wsX3_filledSketches wsX2_filledBuckets := goodIn_r _ [6, 7, 8, 9, 5, 10, 11, 12, 13, 14, 15, 16, 17, 18, 19, 20, 23, 24, 25, 26, 27] (by decide +kernel) (by decide +kernel)
set_option maxRecDepth 20000 in
theorem gX3_filledSketches_X2_filledBuckets : GoodIn wsX3_filledSketches (wsV RX3 33 RX2 yX2_filledBuckets wsX2_filledBuckets) := goodIn_app (goodIn_of _ (by decide +kernel)) ggX3_filledSketches_X2_filledBuckets
