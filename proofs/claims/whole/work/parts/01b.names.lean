theorem dX0_init_0 : decode cX0_init 0 = .ok (.aload_n 0, 1) := by decide +kernel
theorem dX0_init_1 : decode cX0_init 1 = .ok (.invokespecial 3, 3) := by decide +kernel
theorem dX0_init_4 : decode cX0_init 4 = .ok (.aload_n 0, 1) := by decide +kernel
theorem dX0_init_5 : decode cX0_init 5 = .ok (.iload_n 1, 1) := by decide +kernel
theorem dX0_init_6 : decode cX0_init 6 = .ok (.putfield 9, 3) := by decide +kernel
theorem dX0_init_9 : decode cX0_init 9 = .ok (.aload_n 0, 1) := by decide +kernel
theorem dX0_init_10 : decode cX0_init 10 = .ok (.bipush 12, 2) := by decide +kernel
theorem dX0_init_12 : decode cX0_init 12 = .ok (.newarray .int, 2) := by decide +kernel
theorem dX0_init_14 : decode cX0_init 14 = .ok (.putfield 15, 3) := by decide +kernel
theorem dX0_init_17 : decode cX0_init 17 = .ok (.aload_n 0, 1) := by decide +kernel
theorem dX0_init_18 : decode cX0_init 18 = .ok (.bipush 12, 2) := by decide +kernel
theorem dX0_init_20 : decode cX0_init 20 = .ok (.newarray .int, 2) := by decide +kernel
theorem dX0_init_22 : decode cX0_init 22 = .ok (.putfield 19, 3) := by decide +kernel
theorem dX0_init_25 : decode cX0_init 25 = .ok (.iconst 0, 1) := by decide +kernel
theorem dX0_init_26 : decode cX0_init 26 = .ok (.istore_n 2, 1) := by decide +kernel
theorem dX0_init_27 : decode cX0_init 27 = .ok (.iload_n 2, 1) := by decide +kernel
theorem dX0_init_28 : decode cX0_init 28 = .ok (.bipush 12, 2) := by decide +kernel
theorem dX0_init_30 : decode cX0_init 30 = .ok (.if_icmp .ge 25, 3) := by decide +kernel
theorem dX0_init_33 : decode cX0_init 33 = .ok (.aload_n 0, 1) := by decide +kernel
theorem dX0_init_34 : decode cX0_init 34 = .ok (.getfield 15, 3) := by decide +kernel
theorem dX0_init_37 : decode cX0_init 37 = .ok (.iload_n 2, 1) := by decide +kernel
theorem dX0_init_38 : decode cX0_init 38 = .ok (.bipush 100, 2) := by decide +kernel
theorem dX0_init_40 : decode cX0_init 40 = .ok (.iastore, 1) := by decide +kernel
theorem dX0_init_41 : decode cX0_init 41 = .ok (.aload_n 0, 1) := by decide +kernel
theorem dX0_init_42 : decode cX0_init 42 = .ok (.getfield 19, 3) := by decide +kernel
theorem dX0_init_45 : decode cX0_init 45 = .ok (.iload_n 2, 1) := by decide +kernel
theorem dX0_init_46 : decode cX0_init 46 = .ok (.bipush 20, 2) := by decide +kernel
theorem dX0_init_48 : decode cX0_init 48 = .ok (.iastore, 1) := by decide +kernel
theorem dX0_init_49 : decode cX0_init 49 = .ok (.iinc 2 1, 3) := by decide +kernel
theorem dX0_init_52 : decode cX0_init 52 = .ok (.goto (-25), 3) := by decide +kernel
theorem dX0_init_55 : decode cX0_init 55 = .ok (.aload_n 0, 1) := by decide +kernel
theorem dX0_init_56 : decode cX0_init 56 = .ok (.iconst 4, 1) := by decide +kernel
theorem dX0_init_57 : decode cX0_init 57 = .ok (.newarray .int, 2) := by decide +kernel
theorem dX0_init_59 : decode cX0_init 59 = .ok (.putfield 22, 3) := by decide +kernel
theorem dX0_init_62 : decode cX0_init 62 = .ok (.aload_n 0, 1) := by decide +kernel
theorem dX0_init_63 : decode cX0_init 63 = .ok (.iconst 4, 1) := by decide +kernel
theorem dX0_init_64 : decode cX0_init 64 = .ok (.newarray .int, 2) := by decide +kernel
theorem dX0_init_66 : decode cX0_init 66 = .ok (.putfield 25, 3) := by decide +kernel
theorem dX0_init_69 : decode cX0_init 69 = .ok (.aload_n 0, 1) := by decide +kernel
theorem dX0_init_70 : decode cX0_init 70 = .ok (.iconst 4, 1) := by decide +kernel
theorem dX0_init_71 : decode cX0_init 71 = .ok (.newarray .int, 2) := by decide +kernel
theorem dX0_init_73 : decode cX0_init 73 = .ok (.putfield 28, 3) := by decide +kernel
theorem dX0_init_76 : decode cX0_init 76 = .ok (.aload_n 0, 1) := by decide +kernel
theorem dX0_init_77 : decode cX0_init 77 = .ok (.iconst 0, 1) := by decide +kernel
theorem dX0_init_78 : decode cX0_init 78 = .ok (.putfield 31, 3) := by decide +kernel
theorem dX0_init_81 : decode cX0_init 81 = .ok (.aload_n 0, 1) := by decide +kernel
theorem dX0_init_82 : decode cX0_init 82 = .ok (.sipush 401, 3) := by decide +kernel
theorem dX0_init_85 : decode cX0_init 85 = .ok (.putfield 34, 3) := by decide +kernel
theorem dX0_init_88 : decode cX0_init 88 = .ok (.aload_n 0, 1) := by decide +kernel
theorem dX0_init_89 : decode cX0_init 89 = .ok (.iconst 0, 1) := by decide +kernel
theorem dX0_init_90 : decode cX0_init 90 = .ok (.putfield 37, 3) := by decide +kernel
theorem dX0_init_93 : decode cX0_init 93 = .ok (.return_, 1) := by decide +kernel
set_option maxRecDepth 20000 in
theorem ggX0_hasReach_X9_isPlace : GoodIn wsX0_hasReach wsX9_isPlace := goodIn_r _ [4] (by decide +kernel) (by decide +kernel)
set_option maxRecDepth 20000 in
theorem gX0_hasReach_X9_isPlace_n40 : GoodIn wsX0_hasReach (wsX9_isPlace) := ggX0_hasReach_X9_isPlace
theorem dX0_hasReach_0 : decode cX0_hasReach 0 = .ok (.iload_n 1, 1) := by decide +kernel
theorem dX0_hasReach_1 : decode cX0_hasReach 1 = .ok (.aload_n 0, 1) := by decide +kernel
theorem dX0_hasReach_2 : decode cX0_hasReach 2 = .ok (.getfield 9, 3) := by decide +kernel
theorem dX0_hasReach_5 : decode cX0_hasReach 5 = .ok (.invokestatic 40, 3) := by decide +kernel
theorem dX0_hasReach_8 : decode cX0_hasReach 8 = .ok (.ireturn, 1) := by decide +kernel
set_option maxRecDepth 20000 in
theorem ggX0_hasLock_X9_isPlace : GoodIn wsX0_hasLock wsX9_isPlace := goodIn_r _ [4] (by decide +kernel) (by decide +kernel)
set_option maxRecDepth 20000 in
theorem gX0_hasLock_X9_isPlace_n40 : GoodIn wsX0_hasLock (wsX9_isPlace) := ggX0_hasLock_X9_isPlace
theorem dX0_hasLock_0 : decode cX0_hasLock 0 = .ok (.iload_n 1, 1) := by decide +kernel
theorem dX0_hasLock_1 : decode cX0_hasLock 1 = .ok (.aload_n 0, 1) := by decide +kernel
theorem dX0_hasLock_2 : decode cX0_hasLock 2 = .ok (.getfield 9, 3) := by decide +kernel
theorem dX0_hasLock_5 : decode cX0_hasLock 5 = .ok (.iconst 1, 1) := by decide +kernel
theorem dX0_hasLock_6 : decode cX0_hasLock 6 = .ok (.isub, 1) := by decide +kernel
theorem dX0_hasLock_7 : decode cX0_hasLock 7 = .ok (.invokestatic 40, 3) := by decide +kernel
theorem dX0_hasLock_10 : decode cX0_hasLock 10 = .ok (.ireturn, 1) := by decide +kernel
set_option maxRecDepth 20000 in
theorem ggX0_hasLake_X9_isPlace : GoodIn wsX0_hasLake wsX9_isPlace := goodIn_r _ [4] (by decide +kernel) (by decide +kernel)
set_option maxRecDepth 20000 in
theorem gX0_hasLake_X9_isPlace_n40 : GoodIn wsX0_hasLake (wsX9_isPlace) := ggX0_hasLake_X9_isPlace
theorem dX0_hasLake_0 : decode cX0_hasLake 0 = .ok (.iload_n 1, 1) := by decide +kernel
theorem dX0_hasLake_1 : decode cX0_hasLake 1 = .ok (.aload_n 0, 1) := by decide +kernel
theorem dX0_hasLake_2 : decode cX0_hasLake 2 = .ok (.getfield 31, 3) := by decide +kernel
theorem dX0_hasLake_5 : decode cX0_hasLake 5 = .ok (.invokestatic 40, 3) := by decide +kernel
theorem dX0_hasLake_8 : decode cX0_hasLake 8 = .ok (.ireturn, 1) := by decide +kernel
theorem dX0_addLake_0 : decode cX0_addLake 0 = .ok (.aload_n 0, 1) := by decide +kernel
theorem dX0_addLake_1 : decode cX0_addLake 1 = .ok (.getfield 31, 3) := by decide +kernel
theorem dX0_addLake_4 : decode cX0_addLake 4 = .ok (.iconst 4, 1) := by decide +kernel
theorem dX0_addLake_5 : decode cX0_addLake 5 = .ok (.if_icmp .lt 5, 3) := by decide +kernel
theorem dX0_addLake_8 : decode cX0_addLake 8 = .ok (.iconst (-1), 1) := by decide +kernel
theorem dX0_addLake_9 : decode cX0_addLake 9 = .ok (.ireturn, 1) := by decide +kernel
theorem dX0_addLake_10 : decode cX0_addLake 10 = .ok (.aload_n 0, 1) := by decide +kernel
theorem dX0_addLake_11 : decode cX0_addLake 11 = .ok (.getfield 22, 3) := by decide +kernel
theorem dX0_addLake_14 : decode cX0_addLake 14 = .ok (.aload_n 0, 1) := by decide +kernel
theorem dX0_addLake_15 : decode cX0_addLake 15 = .ok (.getfield 31, 3) := by decide +kernel
theorem dX0_addLake_18 : decode cX0_addLake 18 = .ok (.iload_n 1, 1) := by decide +kernel
theorem dX0_addLake_19 : decode cX0_addLake 19 = .ok (.iastore, 1) := by decide +kernel
theorem dX0_addLake_20 : decode cX0_addLake 20 = .ok (.aload_n 0, 1) := by decide +kernel
theorem dX0_addLake_21 : decode cX0_addLake 21 = .ok (.getfield 25, 3) := by decide +kernel
theorem dX0_addLake_24 : decode cX0_addLake 24 = .ok (.aload_n 0, 1) := by decide +kernel
theorem dX0_addLake_25 : decode cX0_addLake 25 = .ok (.getfield 31, 3) := by decide +kernel
theorem dX0_addLake_28 : decode cX0_addLake 28 = .ok (.iload_n 2, 1) := by decide +kernel
theorem dX0_addLake_29 : decode cX0_addLake 29 = .ok (.iastore, 1) := by decide +kernel
theorem dX0_addLake_30 : decode cX0_addLake 30 = .ok (.aload_n 0, 1) := by decide +kernel
theorem dX0_addLake_31 : decode cX0_addLake 31 = .ok (.dup, 1) := by decide +kernel
theorem dX0_addLake_32 : decode cX0_addLake 32 = .ok (.getfield 31, 3) := by decide +kernel
theorem dX0_addLake_35 : decode cX0_addLake 35 = .ok (.iconst 1, 1) := by decide +kernel
theorem dX0_addLake_36 : decode cX0_addLake 36 = .ok (.iadd, 1) := by decide +kernel
theorem dX0_addLake_37 : decode cX0_addLake 37 = .ok (.putfield 31, 3) := by decide +kernel
theorem dX0_addLake_40 : decode cX0_addLake 40 = .ok (.aload_n 0, 1) := by decide +kernel
theorem dX0_addLake_41 : decode cX0_addLake 41 = .ok (.getfield 31, 3) := by decide +kernel
theorem dX0_addLake_44 : decode cX0_addLake 44 = .ok (.iconst 1, 1) := by decide +kernel
theorem dX0_addLake_45 : decode cX0_addLake 45 = .ok (.isub, 1) := by decide +kernel
theorem dX0_addLake_46 : decode cX0_addLake 46 = .ok (.ireturn, 1) := by decide +kernel
theorem dX0_isIcy_0 : decode cX0_isIcy 0 = .ok (.iload_n 2, 1) := by decide +kernel
theorem dX0_isIcy_1 : decode cX0_isIcy 1 = .ok (.aload_n 0, 1) := by decide +kernel
theorem dX0_isIcy_2 : decode cX0_isIcy 2 = .ok (.getfield 34, 3) := by decide +kernel
theorem dX0_isIcy_5 : decode cX0_isIcy 5 = .ok (.if_icmp .lt 15, 3) := by decide +kernel
theorem dX0_isIcy_8 : decode cX0_isIcy 8 = .ok (.iload_n 1, 1) := by decide +kernel
theorem dX0_isIcy_9 : decode cX0_isIcy 9 = .ok (.aload_n 0, 1) := by decide +kernel
theorem dX0_isIcy_10 : decode cX0_isIcy 10 = .ok (.getfield 37, 3) := by decide +kernel
theorem dX0_isIcy_13 : decode cX0_isIcy 13 = .ok (.if_icmp .lt 7, 3) := by decide +kernel
theorem dX0_isIcy_16 : decode cX0_isIcy 16 = .ok (.iconst 1, 1) := by decide +kernel
theorem dX0_isIcy_17 : decode cX0_isIcy 17 = .ok (.goto 4, 3) := by decide +kernel
theorem dX0_isIcy_20 : decode cX0_isIcy 20 = .ok (.iconst 0, 1) := by decide +kernel
theorem dX0_isIcy_21 : decode cX0_isIcy 21 = .ok (.ireturn, 1) := by decide +kernel
set_option maxRecDepth 20000 in
theorem ggX0_isTooLow_X0_hasReach : GoodIn wsX0_isTooLow wsX0_hasReach := goodIn_r _ [6, 7, 8, 9, 10, 11, 12, 13, 14, 15, 16, 17, 18, 19] (by decide +kernel) (by decide +kernel)
set_option maxRecDepth 20000 in
theorem gX0_isTooLow_X0_hasReach : GoodIn wsX0_isTooLow (wsV RX0 44 RX0 yX0_hasReach wsX0_hasReach) := goodIn_app (goodIn_of _ (by decide +kernel)) ggX0_isTooLow_X0_hasReach
theorem dX0_isTooLow_0 : decode cX0_isTooLow 0 = .ok (.aload_n 0, 1) := by decide +kernel
theorem dX0_isTooLow_1 : decode cX0_isTooLow 1 = .ok (.iload_n 1, 1) := by decide +kernel
theorem dX0_isTooLow_2 : decode cX0_isTooLow 2 = .ok (.invokevirtual 44, 3) := by decide +kernel
theorem dX0_isTooLow_5 : decode cX0_isTooLow 5 = .ok (.ifCond .eq 16, 3) := by decide +kernel
theorem dX0_isTooLow_8 : decode cX0_isTooLow 8 = .ok (.aload_n 0, 1) := by decide +kernel
theorem dX0_isTooLow_9 : decode cX0_isTooLow 9 = .ok (.getfield 15, 3) := by decide +kernel
theorem dX0_isTooLow_12 : decode cX0_isTooLow 12 = .ok (.iload_n 1, 1) := by decide +kernel
theorem dX0_isTooLow_13 : decode cX0_isTooLow 13 = .ok (.iaload, 1) := by decide +kernel
theorem dX0_isTooLow_14 : decode cX0_isTooLow 14 = .ok (.bipush 20, 2) := by decide +kernel
theorem dX0_isTooLow_16 : decode cX0_isTooLow 16 = .ok (.iload_n 2, 1) := by decide +kernel
theorem dX0_isTooLow_17 : decode cX0_isTooLow 17 = .ok (.iadd, 1) := by decide +kernel
theorem dX0_isTooLow_18 : decode cX0_isTooLow 18 = .ok (.if_icmp .ge 7, 3) := by decide +kernel
theorem dX0_isTooLow_21 : decode cX0_isTooLow 21 = .ok (.iconst 1, 1) := by decide +kernel
theorem dX0_isTooLow_22 : decode cX0_isTooLow 22 = .ok (.goto 4, 3) := by decide +kernel
theorem dX0_isTooLow_25 : decode cX0_isTooLow 25 = .ok (.iconst 0, 1) := by decide +kernel
theorem dX0_isTooLow_26 : decode cX0_isTooLow 26 = .ok (.ireturn, 1) := by decide +kernel
set_option maxRecDepth 20000 in
theorem ggX0_boatsOf_X0_hasLock : GoodIn wsX0_boatsOf wsX0_hasLock := goodIn_r _ [6, 7, 8, 9, 10, 11, 12, 13, 14, 15, 16, 17, 18, 19] (by decide +kernel) (by decide +kernel)
set_option maxRecDepth 20000 in
theorem gX0_boatsOf_X0_hasLock : GoodIn wsX0_boatsOf (wsV RX0 48 RX0 yX0_hasLock wsX0_hasLock) := goodIn_app (goodIn_of _ (by decide +kernel)) ggX0_boatsOf_X0_hasLock
theorem dX0_boatsOf_0 : decode cX0_boatsOf 0 = .ok (.aload_n 0, 1) := by decide +kernel
theorem dX0_boatsOf_1 : decode cX0_boatsOf 1 = .ok (.iload_n 1, 1) := by decide +kernel
theorem dX0_boatsOf_2 : decode cX0_boatsOf 2 = .ok (.invokevirtual 48, 3) := by decide +kernel
theorem dX0_boatsOf_5 : decode cX0_boatsOf 5 = .ok (.ifCond .eq 12, 3) := by decide +kernel
theorem dX0_boatsOf_8 : decode cX0_boatsOf 8 = .ok (.aload_n 0, 1) := by decide +kernel
theorem dX0_boatsOf_9 : decode cX0_boatsOf 9 = .ok (.getfield 19, 3) := by decide +kernel
theorem dX0_boatsOf_12 : decode cX0_boatsOf 12 = .ok (.iload_n 1, 1) := by decide +kernel
theorem dX0_boatsOf_13 : decode cX0_boatsOf 13 = .ok (.iaload, 1) := by decide +kernel
theorem dX0_boatsOf_14 : decode cX0_boatsOf 14 = .ok (.goto 4, 3) := by decide +kernel
theorem dX0_boatsOf_17 : decode cX0_boatsOf 17 = .ok (.iconst 0, 1) := by decide +kernel
theorem dX0_boatsOf_18 : decode cX0_boatsOf 18 = .ok (.ireturn, 1) := by decide +kernel
set_option maxRecDepth 20000 in
theorem ggX0_takeFromLakes_X0_hasReach : GoodIn wsX0_takeFromLakes wsX0_hasReach := goodIn_r _ [14, 15, 16, 17, 18, 19, 20, 21, 22, 23, 24, 25, 26, 27] (by decide +kernel) (by decide +kernel)
set_option maxRecDepth 20000 in
theorem gX0_takeFromLakes_X0_hasReach : GoodIn wsX0_takeFromLakes (wsV RX0 44 RX0 yX0_hasReach wsX0_hasReach) := goodIn_app (goodIn_of _ (by decide +kernel)) ggX0_takeFromLakes_X0_hasReach
theorem dX0_takeFromLakes_0 : decode cX0_takeFromLakes 0 = .ok (.iconst 0, 1) := by decide +kernel
theorem dX0_takeFromLakes_1 : decode cX0_takeFromLakes 1 = .ok (.istore_n 1, 1) := by decide +kernel
theorem dX0_takeFromLakes_2 : decode cX0_takeFromLakes 2 = .ok (.iload_n 1, 1) := by decide +kernel
theorem dX0_takeFromLakes_3 : decode cX0_takeFromLakes 3 = .ok (.aload_n 0, 1) := by decide +kernel
theorem dX0_takeFromLakes_4 : decode cX0_takeFromLakes 4 = .ok (.getfield 31, 3) := by decide +kernel
theorem dX0_takeFromLakes_7 : decode cX0_takeFromLakes 7 = .ok (.if_icmp .ge 75, 3) := by decide +kernel
theorem dX0_takeFromLakes_10 : decode cX0_takeFromLakes 10 = .ok (.aload_n 0, 1) := by decide +kernel
theorem dX0_takeFromLakes_11 : decode cX0_takeFromLakes 11 = .ok (.getfield 22, 3) := by decide +kernel
theorem dX0_takeFromLakes_14 : decode cX0_takeFromLakes 14 = .ok (.iload_n 1, 1) := by decide +kernel
theorem dX0_takeFromLakes_15 : decode cX0_takeFromLakes 15 = .ok (.iaload, 1) := by decide +kernel
theorem dX0_takeFromLakes_16 : decode cX0_takeFromLakes 16 = .ok (.istore_n 2, 1) := by decide +kernel
theorem dX0_takeFromLakes_17 : decode cX0_takeFromLakes 17 = .ok (.aload_n 0, 1) := by decide +kernel
theorem dX0_takeFromLakes_18 : decode cX0_takeFromLakes 18 = .ok (.iload_n 2, 1) := by decide +kernel
theorem dX0_takeFromLakes_19 : decode cX0_takeFromLakes 19 = .ok (.invokevirtual 44, 3) := by decide +kernel
theorem dX0_takeFromLakes_22 : decode cX0_takeFromLakes 22 = .ok (.ifCond .eq 54, 3) := by decide +kernel
theorem dX0_takeFromLakes_25 : decode cX0_takeFromLakes 25 = .ok (.aload_n 0, 1) := by decide +kernel
theorem dX0_takeFromLakes_26 : decode cX0_takeFromLakes 26 = .ok (.getfield 28, 3) := by decide +kernel
theorem dX0_takeFromLakes_29 : decode cX0_takeFromLakes 29 = .ok (.iload_n 1, 1) := by decide +kernel
theorem dX0_takeFromLakes_30 : decode cX0_takeFromLakes 30 = .ok (.iaload, 1) := by decide +kernel
theorem dX0_takeFromLakes_31 : decode cX0_takeFromLakes 31 = .ok (.aload_n 0, 1) := by decide +kernel
theorem dX0_takeFromLakes_32 : decode cX0_takeFromLakes 32 = .ok (.getfield 25, 3) := by decide +kernel
theorem dX0_takeFromLakes_35 : decode cX0_takeFromLakes 35 = .ok (.iload_n 1, 1) := by decide +kernel
theorem dX0_takeFromLakes_36 : decode cX0_takeFromLakes 36 = .ok (.iaload, 1) := by decide +kernel
theorem dX0_takeFromLakes_37 : decode cX0_takeFromLakes 37 = .ok (.invokestatic 51, 3) := by decide +kernel
theorem dX0_takeFromLakes_40 : decode cX0_takeFromLakes 40 = .ok (.istore_n 3, 1) := by decide +kernel
theorem dX0_takeFromLakes_41 : decode cX0_takeFromLakes 41 = .ok (.iload_n 3, 1) := by decide +kernel
theorem dX0_takeFromLakes_42 : decode cX0_takeFromLakes 42 = .ok (.sipush 1000, 3) := by decide +kernel
theorem dX0_takeFromLakes_45 : decode cX0_takeFromLakes 45 = .ok (.aload_n 0, 1) := by decide +kernel
theorem dX0_takeFromLakes_46 : decode cX0_takeFromLakes 46 = .ok (.getfield 15, 3) := by decide +kernel
theorem dX0_takeFromLakes_49 : decode cX0_takeFromLakes 49 = .ok (.iload_n 2, 1) := by decide +kernel
theorem dX0_takeFromLakes_50 : decode cX0_takeFromLakes 50 = .ok (.iaload, 1) := by decide +kernel
theorem dX0_takeFromLakes_51 : decode cX0_takeFromLakes 51 = .ok (.isub, 1) := by decide +kernel
theorem dX0_takeFromLakes_52 : decode cX0_takeFromLakes 52 = .ok (.invokestatic 51, 3) := by decide +kernel
theorem dX0_takeFromLakes_55 : decode cX0_takeFromLakes 55 = .ok (.istore_n 3, 1) := by decide +kernel
theorem dX0_takeFromLakes_56 : decode cX0_takeFromLakes 56 = .ok (.aload_n 0, 1) := by decide +kernel
theorem dX0_takeFromLakes_57 : decode cX0_takeFromLakes 57 = .ok (.getfield 25, 3) := by decide +kernel
theorem dX0_takeFromLakes_60 : decode cX0_takeFromLakes 60 = .ok (.iload_n 1, 1) := by decide +kernel
theorem dX0_takeFromLakes_61 : decode cX0_takeFromLakes 61 = .ok (.dup2, 1) := by decide +kernel
theorem dX0_takeFromLakes_62 : decode cX0_takeFromLakes 62 = .ok (.iaload, 1) := by decide +kernel
theorem dX0_takeFromLakes_63 : decode cX0_takeFromLakes 63 = .ok (.iload_n 3, 1) := by decide +kernel
theorem dX0_takeFromLakes_64 : decode cX0_takeFromLakes 64 = .ok (.isub, 1) := by decide +kernel
theorem dX0_takeFromLakes_65 : decode cX0_takeFromLakes 65 = .ok (.iastore, 1) := by decide +kernel
theorem dX0_takeFromLakes_66 : decode cX0_takeFromLakes 66 = .ok (.aload_n 0, 1) := by decide +kernel
theorem dX0_takeFromLakes_67 : decode cX0_takeFromLakes 67 = .ok (.getfield 15, 3) := by decide +kernel
theorem dX0_takeFromLakes_70 : decode cX0_takeFromLakes 70 = .ok (.iload_n 2, 1) := by decide +kernel
theorem dX0_takeFromLakes_71 : decode cX0_takeFromLakes 71 = .ok (.dup2, 1) := by decide +kernel
theorem dX0_takeFromLakes_72 : decode cX0_takeFromLakes 72 = .ok (.iaload, 1) := by decide +kernel
theorem dX0_takeFromLakes_73 : decode cX0_takeFromLakes 73 = .ok (.iload_n 3, 1) := by decide +kernel
theorem dX0_takeFromLakes_74 : decode cX0_takeFromLakes 74 = .ok (.iadd, 1) := by decide +kernel
theorem dX0_takeFromLakes_75 : decode cX0_takeFromLakes 75 = .ok (.iastore, 1) := by decide +kernel
theorem dX0_takeFromLakes_76 : decode cX0_takeFromLakes 76 = .ok (.iinc 1 1, 3) := by decide +kernel
theorem dX0_takeFromLakes_79 : decode cX0_takeFromLakes 79 = .ok (.goto (-77), 3) := by decide +kernel
theorem dX0_takeFromLakes_82 : decode cX0_takeFromLakes 82 = .ok (.return_, 1) := by decide +kernel
set_option maxRecDepth 20000 in
theorem ggX0_letThrough_X0_hasLock : GoodIn wsX0_letThrough wsX0_hasLock := goodIn_r _ [10, 11, 12, 13, 14, 15, 16, 17, 18, 19, 20, 21, 22, 23] (by decide +kernel) (by decide +kernel)
set_option maxRecDepth 20000 in
theorem gX0_letThrough_X0_hasLock : GoodIn wsX0_letThrough (wsV RX0 48 RX0 yX0_hasLock wsX0_hasLock) := goodIn_app (goodIn_of _ (by decide +kernel)) ggX0_letThrough_X0_hasLock
theorem dX0_letThrough_0 : decode cX0_letThrough 0 = .ok (.aload_n 0, 1) := by decide +kernel
theorem dX0_letThrough_1 : decode cX0_letThrough 1 = .ok (.iload_n 1, 1) := by decide +kernel
theorem dX0_letThrough_2 : decode cX0_letThrough 2 = .ok (.invokevirtual 48, 3) := by decide +kernel
theorem dX0_letThrough_5 : decode cX0_letThrough 5 = .ok (.ifCond .eq 35, 3) := by decide +kernel
theorem dX0_letThrough_8 : decode cX0_letThrough 8 = .ok (.aload_n 0, 1) := by decide +kernel
theorem dX0_letThrough_9 : decode cX0_letThrough 9 = .ok (.getfield 15, 3) := by decide +kernel
theorem dX0_letThrough_12 : decode cX0_letThrough 12 = .ok (.iload_n 1, 1) := by decide +kernel
theorem dX0_letThrough_13 : decode cX0_letThrough 13 = .ok (.iconst 1, 1) := by decide +kernel
theorem dX0_letThrough_14 : decode cX0_letThrough 14 = .ok (.iadd, 1) := by decide +kernel
theorem dX0_letThrough_15 : decode cX0_letThrough 15 = .ok (.dup2, 1) := by decide +kernel
theorem dX0_letThrough_16 : decode cX0_letThrough 16 = .ok (.iaload, 1) := by decide +kernel
theorem dX0_letThrough_17 : decode cX0_letThrough 17 = .ok (.iload_n 2, 1) := by decide +kernel
theorem dX0_letThrough_18 : decode cX0_letThrough 18 = .ok (.isub, 1) := by decide +kernel
theorem dX0_letThrough_19 : decode cX0_letThrough 19 = .ok (.iastore, 1) := by decide +kernel
theorem dX0_letThrough_20 : decode cX0_letThrough 20 = .ok (.aload_n 0, 1) := by decide +kernel
theorem dX0_letThrough_21 : decode cX0_letThrough 21 = .ok (.getfield 15, 3) := by decide +kernel
theorem dX0_letThrough_24 : decode cX0_letThrough 24 = .ok (.iload_n 1, 1) := by decide +kernel
theorem dX0_letThrough_25 : decode cX0_letThrough 25 = .ok (.sipush 1000, 3) := by decide +kernel
theorem dX0_letThrough_28 : decode cX0_letThrough 28 = .ok (.aload_n 0, 1) := by decide +kernel
theorem dX0_letThrough_29 : decode cX0_letThrough 29 = .ok (.getfield 15, 3) := by decide +kernel
theorem dX0_letThrough_32 : decode cX0_letThrough 32 = .ok (.iload_n 1, 1) := by decide +kernel
theorem dX0_letThrough_33 : decode cX0_letThrough 33 = .ok (.iaload, 1) := by decide +kernel
theorem dX0_letThrough_34 : decode cX0_letThrough 34 = .ok (.iload_n 2, 1) := by decide +kernel
theorem dX0_letThrough_35 : decode cX0_letThrough 35 = .ok (.iadd, 1) := by decide +kernel
theorem dX0_letThrough_36 : decode cX0_letThrough 36 = .ok (.invokestatic 51, 3) := by decide +kernel
theorem dX0_letThrough_39 : decode cX0_letThrough 39 = .ok (.iastore, 1) := by decide +kernel
theorem dX0_letThrough_40 : decode cX0_letThrough 40 = .ok (.return_, 1) := by decide +kernel
set_option maxRecDepth 20000 in
theorem ggX1_init_X7_init : GoodIn wsX1_init wsX7_init := goodIn_r _ [12, 13, 2, 3, 14, 15, 16, 17, 18, 19, 20, 21, 25, 26, 27, 28, 29, 30, 31] (by decide +kernel) (by decide +kernel)
set_option maxRecDepth 20000 in
theorem gX1_init_X7_init : GoodIn wsX1_init (wsX7_init) := ggX1_init_X7_init
theorem dX1_init_0 : decode cX1_init 0 = .ok (.aload_n 0, 1) := by decide +kernel
theorem dX1_init_1 : decode cX1_init 1 = .ok (.invokespecial 3, 3) := by decide +kernel
theorem dX1_init_4 : decode cX1_init 4 = .ok (.aload_n 0, 1) := by decide +kernel
theorem dX1_init_5 : decode cX1_init 5 = .ok (.bipush 10, 2) := by decide +kernel
theorem dX1_init_7 : decode cX1_init 7 = .ok (.anewarray 11, 3) := by decide +kernel
theorem dX1_init_10 : decode cX1_init 10 = .ok (.putfield 13, 3) := by decide +kernel
theorem dX1_init_13 : decode cX1_init 13 = .ok (.aload_n 0, 1) := by decide +kernel
theorem dX1_init_14 : decode cX1_init 14 = .ok (.new 11, 3) := by decide +kernel
theorem dX1_init_17 : decode cX1_init 17 = .ok (.dup, 1) := by decide +kernel
theorem dX1_init_18 : decode cX1_init 18 = .ok (.iload_n 1, 1) := by decide +kernel
theorem dX1_init_19 : decode cX1_init 19 = .ok (.iconst (-1), 1) := by decide +kernel
theorem dX1_init_20 : decode cX1_init 20 = .ok (.iconst 0, 1) := by decide +kernel
theorem dX1_init_21 : decode cX1_init 21 = .ok (.invokespecial 17, 3) := by decide +kernel
theorem dX1_init_24 : decode cX1_init 24 = .ok (.putfield 20, 3) := by decide +kernel
theorem dX1_init_27 : decode cX1_init 27 = .ok (.aload_n 0, 1) := by decide +kernel
theorem dX1_init_28 : decode cX1_init 28 = .ok (.iconst 0, 1) := by decide +kernel
theorem dX1_init_29 : decode cX1_init 29 = .ok (.putfield 24, 3) := by decide +kernel
theorem dX1_init_32 : decode cX1_init 32 = .ok (.return_, 1) := by decide +kernel
theorem dX1_isFull_0 : decode cX1_isFull 0 = .ok (.aload_n 0, 1) := by decide +kernel
theorem dX1_isFull_1 : decode cX1_isFull 1 = .ok (.getfield 24, 3) := by decide +kernel
theorem dX1_isFull_4 : decode cX1_isFull 4 = .ok (.bipush 10, 2) := by decide +kernel
theorem dX1_isFull_6 : decode cX1_isFull 6 = .ok (.if_icmp .lt 7, 3) := by decide +kernel
theorem dX1_isFull_9 : decode cX1_isFull 9 = .ok (.iconst 1, 1) := by decide +kernel
theorem dX1_isFull_10 : decode cX1_isFull 10 = .ok (.goto 4, 3) := by decide +kernel
theorem dX1_isFull_13 : decode cX1_isFull 13 = .ok (.iconst 0, 1) := by decide +kernel
theorem dX1_isFull_14 : decode cX1_isFull 14 = .ok (.ireturn, 1) := by decide +kernel
set_option maxRecDepth 20000 in
theorem ggX1_take_X1_isFull : GoodIn wsX1_take wsX1_isFull := goodIn_r _ [7, 2, 8, 9, 10] (by decide +kernel) (by decide +kernel)
set_option maxRecDepth 20000 in
theorem gX1_take_X1_isFull : GoodIn wsX1_take (wsV RX1 28 RX1 yX1_isFull wsX1_isFull) := goodIn_app (goodIn_of _ (by decide +kernel)) ggX1_take_X1_isFull
theorem dX1_take_0 : decode cX1_take 0 = .ok (.aload_n 0, 1) := by decide +kernel
theorem dX1_take_1 : decode cX1_take 1 = .ok (.invokevirtual 28, 3) := by decide +kernel
theorem dX1_take_4 : decode cX1_take 4 = .ok (.ifCond .eq 5, 3) := by decide +kernel
theorem dX1_take_7 : decode cX1_take 7 = .ok (.iconst (-1), 1) := by decide +kernel
theorem dX1_take_8 : decode cX1_take 8 = .ok (.ireturn, 1) := by decide +kernel
theorem dX1_take_9 : decode cX1_take 9 = .ok (.aload_n 0, 1) := by decide +kernel
theorem dX1_take_10 : decode cX1_take 10 = .ok (.getfield 13, 3) := by decide +kernel
theorem dX1_take_13 : decode cX1_take 13 = .ok (.aload_n 0, 1) := by decide +kernel
theorem dX1_take_14 : decode cX1_take 14 = .ok (.getfield 24, 3) := by decide +kernel
theorem dX1_take_17 : decode cX1_take 17 = .ok (.aload_n 1, 1) := by decide +kernel
theorem dX1_take_18 : decode cX1_take 18 = .ok (.aastore, 1) := by decide +kernel
theorem dX1_take_19 : decode cX1_take 19 = .ok (.aload_n 0, 1) := by decide +kernel
theorem dX1_take_20 : decode cX1_take 20 = .ok (.dup, 1) := by decide +kernel
theorem dX1_take_21 : decode cX1_take 21 = .ok (.getfield 24, 3) := by decide +kernel
theorem dX1_take_24 : decode cX1_take 24 = .ok (.iconst 1, 1) := by decide +kernel
theorem dX1_take_25 : decode cX1_take 25 = .ok (.iadd, 1) := by decide +kernel
theorem dX1_take_26 : decode cX1_take 26 = .ok (.putfield 24, 3) := by decide +kernel
theorem dX1_take_29 : decode cX1_take 29 = .ok (.aload_n 0, 1) := by decide +kernel
theorem dX1_take_30 : decode cX1_take 30 = .ok (.getfield 24, 3) := by decide +kernel
theorem dX1_take_33 : decode cX1_take 33 = .ok (.iconst 1, 1) := by decide +kernel
theorem dX1_take_34 : decode cX1_take 34 = .ok (.isub, 1) := by decide +kernel
theorem dX1_take_35 : decode cX1_take 35 = .ok (.ireturn, 1) := by decide +kernel
theorem dX1_inForce_0 : decode cX1_inForce 0 = .ok (.aload_n 0, 1) := by decide +kernel
theorem dX1_inForce_1 : decode cX1_inForce 1 = .ok (.getfield 24, 3) := by decide +kernel
theorem dX1_inForce_4 : decode cX1_inForce 4 = .ok (.iconst 1, 1) := by decide +kernel
theorem dX1_inForce_5 : decode cX1_inForce 5 = .ok (.isub, 1) := by decide +kernel
theorem dX1_inForce_6 : decode cX1_inForce 6 = .ok (.istore_n 2, 1) := by decide +kernel
theorem dX1_inForce_7 : decode cX1_inForce 7 = .ok (.iload_n 2, 1) := by decide +kernel
theorem dX1_inForce_8 : decode cX1_inForce 8 = .ok (.ifCond .lt 30, 3) := by decide +kernel
theorem dX1_inForce_11 : decode cX1_inForce 11 = .ok (.aload_n 0, 1) := by decide +kernel
theorem dX1_inForce_12 : decode cX1_inForce 12 = .ok (.getfield 13, 3) := by decide +kernel
theorem dX1_inForce_15 : decode cX1_inForce 15 = .ok (.iload_n 2, 1) := by decide +kernel
theorem dX1_inForce_16 : decode cX1_inForce 16 = .ok (.aaload, 1) := by decide +kernel
theorem dX1_inForce_17 : decode cX1_inForce 17 = .ok (.astore_n 3, 1) := by decide +kernel
theorem dX1_inForce_18 : decode cX1_inForce 18 = .ok (.aload_n 3, 1) := by decide +kernel
theorem dX1_inForce_19 : decode cX1_inForce 19 = .ok (.ifnull 13, 3) := by decide +kernel
theorem dX1_inForce_22 : decode cX1_inForce 22 = .ok (.aload_n 3, 1) := by decide +kernel
theorem dX1_inForce_23 : decode cX1_inForce 23 = .ok (.getfield 32, 3) := by decide +kernel
theorem dX1_inForce_26 : decode cX1_inForce 26 = .ok (.iload_n 1, 1) := by decide +kernel
theorem dX1_inForce_27 : decode cX1_inForce 27 = .ok (.if_icmp .gt 5, 3) := by decide +kernel
theorem dX1_inForce_30 : decode cX1_inForce 30 = .ok (.aload_n 3, 1) := by decide +kernel
theorem dX1_inForce_31 : decode cX1_inForce 31 = .ok (.areturn, 1) := by decide +kernel
theorem dX1_inForce_32 : decode cX1_inForce 32 = .ok (.iinc 2 (-1), 3) := by decide +kernel
theorem dX1_inForce_35 : decode cX1_inForce 35 = .ok (.goto (-28), 3) := by decide +kernel
theorem dX1_inForce_38 : decode cX1_inForce 38 = .ok (.aload_n 0, 1) := by decide +kernel
theorem dX1_inForce_39 : decode cX1_inForce 39 = .ok (.getfield 20, 3) := by decide +kernel
theorem dX1_inForce_42 : decode cX1_inForce 42 = .ok (.areturn, 1) := by decide +kernel
theorem dX2_init_0 : decode cX2_init 0 = .ok (.aload_n 0, 1) := by decide +kernel
theorem dX2_init_1 : decode cX2_init 1 = .ok (.invokespecial 3, 3) := by decide +kernel
theorem dX2_init_4 : decode cX2_init 4 = .ok (.aload_n 0, 1) := by decide +kernel
theorem dX2_init_5 : decode cX2_init 5 = .ok (.bipush 6, 2) := by decide +kernel
theorem dX2_init_7 : decode cX2_init 7 = .ok (.newarray .int, 2) := by decide +kernel
theorem dX2_init_9 : decode cX2_init 9 = .ok (.putfield 9, 3) := by decide +kernel
theorem dX2_init_12 : decode cX2_init 12 = .ok (.aload_n 0, 1) := by decide +kernel
theorem dX2_init_13 : decode cX2_init 13 = .ok (.bipush 6, 2) := by decide +kernel
theorem dX2_init_15 : decode cX2_init 15 = .ok (.newarray .int, 2) := by decide +kernel
theorem dX2_init_17 : decode cX2_init 17 = .ok (.putfield 15, 3) := by decide +kernel
theorem dX2_init_20 : decode cX2_init 20 = .ok (.aload_n 0, 1) := by decide +kernel
theorem dX2_init_21 : decode cX2_init 21 = .ok (.bipush 6, 2) := by decide +kernel
theorem dX2_init_23 : decode cX2_init 23 = .ok (.newarray .int, 2) := by decide +kernel
theorem dX2_init_25 : decode cX2_init 25 = .ok (.putfield 18, 3) := by decide +kernel
theorem dX2_init_28 : decode cX2_init 28 = .ok (.aload_n 0, 1) := by decide +kernel
theorem dX2_init_29 : decode cX2_init 29 = .ok (.iconst 0, 1) := by decide +kernel
theorem dX2_init_30 : decode cX2_init 30 = .ok (.putfield 21, 3) := by decide +kernel
theorem dX2_init_33 : decode cX2_init 33 = .ok (.return_, 1) := by decide +kernel
set_option maxRecDepth 20000 in
theorem ggX2_leftToCommute_X9_isCounty : GoodIn wsX2_leftToCommute wsX9_isCounty := goodIn_r _ [5, 6, 7, 4, 8] (by decide +kernel) (by decide +kernel)
set_option maxRecDepth 20000 in
theorem gX2_leftToCommute_X9_isCounty_n25 : GoodIn wsX2_leftToCommute (wsX9_isCounty) := ggX2_leftToCommute_X9_isCounty
theorem dX2_leftToCommute_0 : decode cX2_leftToCommute 0 = .ok (.iload_n 1, 1) := by decide +kernel
theorem dX2_leftToCommute_1 : decode cX2_leftToCommute 1 = .ok (.invokestatic 25, 3) := by decide +kernel
theorem dX2_leftToCommute_4 : decode cX2_leftToCommute 4 = .ok (.ifCond .eq 19, 3) := by decide +kernel
theorem dX2_leftToCommute_7 : decode cX2_leftToCommute 7 = .ok (.aload_n 0, 1) := by decide +kernel
theorem dX2_leftToCommute_8 : decode cX2_leftToCommute 8 = .ok (.getfield 9, 3) := by decide +kernel
theorem dX2_leftToCommute_11 : decode cX2_leftToCommute 11 = .ok (.iload_n 1, 1) := by decide +kernel
theorem dX2_leftToCommute_12 : decode cX2_leftToCommute 12 = .ok (.iaload, 1) := by decide +kernel
theorem dX2_leftToCommute_13 : decode cX2_leftToCommute 13 = .ok (.aload_n 0, 1) := by decide +kernel
theorem dX2_leftToCommute_14 : decode cX2_leftToCommute 14 = .ok (.getfield 15, 3) := by decide +kernel
theorem dX2_leftToCommute_17 : decode cX2_leftToCommute 17 = .ok (.iload_n 1, 1) := by decide +kernel
theorem dX2_leftToCommute_18 : decode cX2_leftToCommute 18 = .ok (.iaload, 1) := by decide +kernel
theorem dX2_leftToCommute_19 : decode cX2_leftToCommute 19 = .ok (.isub, 1) := by decide +kernel
theorem dX2_leftToCommute_20 : decode cX2_leftToCommute 20 = .ok (.goto 4, 3) := by decide +kernel
theorem dX2_leftToCommute_23 : decode cX2_leftToCommute 23 = .ok (.iconst 0, 1) := by decide +kernel
theorem dX2_leftToCommute_24 : decode cX2_leftToCommute 24 = .ok (.ireturn, 1) := by decide +kernel
set_option maxRecDepth 20000 in
theorem ggX2_payFor_X9_isCounty : GoodIn wsX2_payFor wsX9_isCounty := goodIn_r _ [6, 7, 8, 5, 9] (by decide +kernel) (by decide +kernel)
set_option maxRecDepth 20000 in
theorem gX2_payFor_X9_isCounty_n25 : GoodIn wsX2_payFor (wsX9_isCounty) := ggX2_payFor_X9_isCounty
theorem dX2_payFor_0 : decode cX2_payFor 0 = .ok (.iload_n 2, 1) := by decide +kernel
theorem dX2_payFor_1 : decode cX2_payFor 1 = .ok (.aload_n 0, 1) := by decide +kernel
theorem dX2_payFor_2 : decode cX2_payFor 2 = .ok (.getfield 21, 3) := by decide +kernel
theorem dX2_payFor_5 : decode cX2_payFor 5 = .ok (.imul, 1) := by decide +kernel
theorem dX2_payFor_6 : decode cX2_payFor 6 = .ok (.istore_n 3, 1) := by decide +kernel
theorem dX2_payFor_7 : decode cX2_payFor 7 = .ok (.iload_n 1, 1) := by decide +kernel
theorem dX2_payFor_8 : decode cX2_payFor 8 = .ok (.invokestatic 25, 3) := by decide +kernel
theorem dX2_payFor_11 : decode cX2_payFor 11 = .ok (.ifCond .eq 23, 3) := by decide +kernel
theorem dX2_payFor_14 : decode cX2_payFor 14 = .ok (.aload_n 0, 1) := by decide +kernel
theorem dX2_payFor_15 : decode cX2_payFor 15 = .ok (.getfield 15, 3) := by decide +kernel
theorem dX2_payFor_18 : decode cX2_payFor 18 = .ok (.iload_n 1, 1) := by decide +kernel
theorem dX2_payFor_19 : decode cX2_payFor 19 = .ok (.dup2, 1) := by decide +kernel
theorem dX2_payFor_20 : decode cX2_payFor 20 = .ok (.iaload, 1) := by decide +kernel
theorem dX2_payFor_21 : decode cX2_payFor 21 = .ok (.iload_n 2, 1) := by decide +kernel
theorem dX2_payFor_22 : decode cX2_payFor 22 = .ok (.iadd, 1) := by decide +kernel
theorem dX2_payFor_23 : decode cX2_payFor 23 = .ok (.iastore, 1) := by decide +kernel
theorem dX2_payFor_24 : decode cX2_payFor 24 = .ok (.aload_n 0, 1) := by decide +kernel
theorem dX2_payFor_25 : decode cX2_payFor 25 = .ok (.getfield 18, 3) := by decide +kernel
theorem dX2_payFor_28 : decode cX2_payFor 28 = .ok (.iload_n 1, 1) := by decide +kernel
theorem dX2_payFor_29 : decode cX2_payFor 29 = .ok (.dup2, 1) := by decide +kernel
theorem dX2_payFor_30 : decode cX2_payFor 30 = .ok (.iaload, 1) := by decide +kernel
theorem dX2_payFor_31 : decode cX2_payFor 31 = .ok (.iload_n 3, 1) := by decide +kernel
theorem dX2_payFor_32 : decode cX2_payFor 32 = .ok (.iadd, 1) := by decide +kernel
theorem dX2_payFor_33 : decode cX2_payFor 33 = .ok (.iastore, 1) := by decide +kernel
theorem dX2_payFor_34 : decode cX2_payFor 34 = .ok (.iload_n 3, 1) := by decide +kernel
theorem dX2_payFor_35 : decode cX2_payFor 35 = .ok (.ireturn, 1) := by decide +kernel
theorem dX3_init_0 : decode cX3_init 0 = .ok (.aload_n 0, 1) := by decide +kernel
theorem dX3_init_1 : decode cX3_init 1 = .ok (.invokespecial 3, 3) := by decide +kernel
theorem dX3_init_4 : decode cX3_init 4 = .ok (.aload_n 0, 1) := by decide +kernel
theorem dX3_init_5 : decode cX3_init 5 = .ok (.bipush 12, 2) := by decide +kernel
theorem dX3_init_7 : decode cX3_init 7 = .ok (.anewarray 11, 3) := by decide +kernel
theorem dX3_init_10 : decode cX3_init 10 = .ok (.putfield 13, 3) := by decide +kernel
theorem dX3_init_13 : decode cX3_init 13 = .ok (.aload_n 0, 1) := by decide +kernel
theorem dX3_init_14 : decode cX3_init 14 = .ok (.bipush 12, 2) := by decide +kernel
theorem dX3_init_16 : decode cX3_init 16 = .ok (.newarray .int, 2) := by decide +kernel
theorem dX3_init_18 : decode cX3_init 18 = .ok (.putfield 17, 3) := by decide +kernel
theorem dX3_init_21 : decode cX3_init 21 = .ok (.aload_n 0, 1) := by decide +kernel
theorem dX3_init_22 : decode cX3_init 22 = .ok (.iconst 0, 1) := by decide +kernel
theorem dX3_init_23 : decode cX3_init 23 = .ok (.putfield 21, 3) := by decide +kernel
theorem dX3_init_26 : decode cX3_init 26 = .ok (.return_, 1) := by decide +kernel
theorem dX3_isFull_0 : decode cX3_isFull 0 = .ok (.aload_n 0, 1) := by decide +kernel
theorem dX3_isFull_1 : decode cX3_isFull 1 = .ok (.getfield 21, 3) := by decide +kernel
theorem dX3_isFull_4 : decode cX3_isFull 4 = .ok (.bipush 12, 2) := by decide +kernel
theorem dX3_isFull_6 : decode cX3_isFull 6 = .ok (.if_icmp .lt 7, 3) := by decide +kernel
theorem dX3_isFull_9 : decode cX3_isFull 9 = .ok (.iconst 1, 1) := by decide +kernel
theorem dX3_isFull_10 : decode cX3_isFull 10 = .ok (.goto 4, 3) := by decide +kernel
theorem dX3_isFull_13 : decode cX3_isFull 13 = .ok (.iconst 0, 1) := by decide +kernel
theorem dX3_isFull_14 : decode cX3_isFull 14 = .ok (.ireturn, 1) := by decide +kernel
set_option maxRecDepth 20000 in
theorem ggX3_add_X3_isFull : GoodIn wsX3_add wsX3_isFull := goodIn_r _ [7, 2, 8, 9, 10] (by decide +kernel) (by decide +kernel)
set_option maxRecDepth 20000 in
theorem gX3_add_X3_isFull : GoodIn wsX3_add (wsV RX3 25 RX3 yX3_isFull wsX3_isFull) := goodIn_app (goodIn_of _ (by decide +kernel)) ggX3_add_X3_isFull
theorem dX3_add_0 : decode cX3_add 0 = .ok (.aload_n 0, 1) := by decide +kernel
theorem dX3_add_1 : decode cX3_add 1 = .ok (.invokevirtual 25, 3) := by decide +kernel
theorem dX3_add_4 : decode cX3_add 4 = .ok (.ifCond .eq 5, 3) := by decide +kernel
theorem dX3_add_7 : decode cX3_add 7 = .ok (.iconst (-1), 1) := by decide +kernel
theorem dX3_add_8 : decode cX3_add 8 = .ok (.ireturn, 1) := by decide +kernel
theorem dX3_add_9 : decode cX3_add 9 = .ok (.aload_n 0, 1) := by decide +kernel
theorem dX3_add_10 : decode cX3_add 10 = .ok (.getfield 13, 3) := by decide +kernel
theorem dX3_add_13 : decode cX3_add 13 = .ok (.aload_n 0, 1) := by decide +kernel
theorem dX3_add_14 : decode cX3_add 14 = .ok (.getfield 21, 3) := by decide +kernel
theorem dX3_add_17 : decode cX3_add 17 = .ok (.aload_n 1, 1) := by decide +kernel
theorem dX3_add_18 : decode cX3_add 18 = .ok (.aastore, 1) := by decide +kernel
theorem dX3_add_19 : decode cX3_add 19 = .ok (.aload_n 0, 1) := by decide +kernel
theorem dX3_add_20 : decode cX3_add 20 = .ok (.dup, 1) := by decide +kernel
theorem dX3_add_21 : decode cX3_add 21 = .ok (.getfield 21, 3) := by decide +kernel
theorem dX3_add_24 : decode cX3_add 24 = .ok (.iconst 1, 1) := by decide +kernel
theorem dX3_add_25 : decode cX3_add 25 = .ok (.iadd, 1) := by decide +kernel
theorem dX3_add_26 : decode cX3_add 26 = .ok (.putfield 21, 3) := by decide +kernel
theorem dX3_add_29 : decode cX3_add 29 = .ok (.aload_n 0, 1) := by decide +kernel
theorem dX3_add_30 : decode cX3_add 30 = .ok (.getfield 21, 3) := by decide +kernel
theorem dX3_add_33 : decode cX3_add 33 = .ok (.iconst 1, 1) := by decide +kernel
theorem dX3_add_34 : decode cX3_add 34 = .ok (.isub, 1) := by decide +kernel
theorem dX3_add_35 : decode cX3_add 35 = .ok (.ireturn, 1) := by decide +kernel
set_option maxRecDepth 20000 in
theorem ggX3_find_X9_isPlace : GoodIn wsX3_find wsX9_isPlace := goodIn_r _ [5] (by decide +kernel) (by decide +kernel)
set_option maxRecDepth 20000 in
theorem gX3_find_X9_isPlace_n29 : GoodIn wsX3_find (wsX9_isPlace) := ggX3_find_X9_isPlace
theorem dX3_find_0 : decode cX3_find 0 = .ok (.iload_n 1, 1) := by decide +kernel
theorem dX3_find_1 : decode cX3_find 1 = .ok (.aload_n 0, 1) := by decide +kernel
theorem dX3_find_2 : decode cX3_find 2 = .ok (.getfield 21, 3) := by decide +kernel
theorem dX3_find_5 : decode cX3_find 5 = .ok (.invokestatic 29, 3) := by decide +kernel
theorem dX3_find_8 : decode cX3_find 8 = .ok (.ifCond .eq 12, 3) := by decide +kernel
theorem dX3_find_11 : decode cX3_find 11 = .ok (.aload_n 0, 1) := by decide +kernel
theorem dX3_find_12 : decode cX3_find 12 = .ok (.getfield 13, 3) := by decide +kernel
theorem dX3_find_15 : decode cX3_find 15 = .ok (.iload_n 1, 1) := by decide +kernel
theorem dX3_find_16 : decode cX3_find 16 = .ok (.aaload, 1) := by decide +kernel
theorem dX3_find_17 : decode cX3_find 17 = .ok (.goto 4, 3) := by decide +kernel
theorem dX3_find_20 : decode cX3_find 20 = .ok (.aconst_null, 1) := by decide +kernel
theorem dX3_find_21 : decode cX3_find 21 = .ok (.areturn, 1) := by decide +kernel
theorem dX3_hasAll_0 : decode cX3_hasAll 0 = .ok (.iload_n 1, 1) := by decide +kernel
theorem dX3_hasAll_1 : decode cX3_hasAll 1 = .ok (.aload_n 0, 1) := by decide +kernel
theorem dX3_hasAll_2 : decode cX3_hasAll 2 = .ok (.getfield 21, 3) := by decide +kernel
theorem dX3_hasAll_5 : decode cX3_hasAll 5 = .ok (.iushr, 1) := by decide +kernel
theorem dX3_hasAll_6 : decode cX3_hasAll 6 = .ok (.ifCond .ne 7, 3) := by decide +kernel
theorem dX3_hasAll_9 : decode cX3_hasAll 9 = .ok (.iconst 1, 1) := by decide +kernel
theorem dX3_hasAll_10 : decode cX3_hasAll 10 = .ok (.goto 4, 3) := by decide +kernel
theorem dX3_hasAll_13 : decode cX3_hasAll 13 = .ok (.iconst 0, 1) := by decide +kernel
theorem dX3_hasAll_14 : decode cX3_hasAll 14 = .ok (.ireturn, 1) := by decide +kernel
set_option maxRecDepth 20000 in
theorem ggX3_inLine_X9_isPlace : GoodIn wsX3_inLine wsX9_isPlace := goodIn_r _ [4] (by decide +kernel) (by decide +kernel)
set_option maxRecDepth 20000 in
theorem gX3_inLine_X9_isPlace_n29 : GoodIn wsX3_inLine (wsX9_isPlace) := ggX3_inLine_X9_isPlace
set_option maxRecDepth 20000 in
theorem ggX3_inLine_X3_find : GoodIn wsX3_inLine wsX3_find := goodIn_r _ [9, 10, 11, 2, 3, 4, 12, 13, 14] (by decide +kernel) (by decide +kernel)
set_option maxRecDepth 20000 in
theorem gX3_inLine_X3_find : GoodIn wsX3_inLine (wsV RX3 33 RX3 yX3_find wsX3_find) := goodIn_app (goodIn_of _ (by decide +kernel)) ggX3_inLine_X3_find
theorem dX3_inLine_0 : decode cX3_inLine 0 = .ok (.iload_n 1, 1) := by decide +kernel
theorem dX3_inLine_1 : decode cX3_inLine 1 = .ok (.bipush 12, 2) := by decide +kernel
theorem dX3_inLine_3 : decode cX3_inLine 3 = .ok (.invokestatic 29, 3) := by decide +kernel
theorem dX3_inLine_6 : decode cX3_inLine 6 = .ok (.ifCond .eq 16, 3) := by decide +kernel
theorem dX3_inLine_9 : decode cX3_inLine 9 = .ok (.aload_n 0, 1) := by decide +kernel
theorem dX3_inLine_10 : decode cX3_inLine 10 = .ok (.aload_n 0, 1) := by decide +kernel
theorem dX3_inLine_11 : decode cX3_inLine 11 = .ok (.getfield 17, 3) := by decide +kernel
theorem dX3_inLine_14 : decode cX3_inLine 14 = .ok (.iload_n 1, 1) := by decide +kernel
theorem dX3_inLine_15 : decode cX3_inLine 15 = .ok (.iaload, 1) := by decide +kernel
theorem dX3_inLine_16 : decode cX3_inLine 16 = .ok (.invokevirtual 33, 3) := by decide +kernel
theorem dX3_inLine_19 : decode cX3_inLine 19 = .ok (.goto 4, 3) := by decide +kernel
theorem dX3_inLine_22 : decode cX3_inLine 22 = .ok (.aconst_null, 1) := by decide +kernel
theorem dX3_inLine_23 : decode cX3_inLine 23 = .ok (.areturn, 1) := by decide +kernel
set_option maxRecDepth 20000 in
theorem ggX3_beginDay_X3_find : GoodIn wsX3_beginDay wsX3_find := goodIn_r _ [6, 1, 7, 8, 9, 10, 24, 25, 26] (by decide +kernel) (by decide +kernel)
set_option maxRecDepth 20000 in
theorem gX3_beginDay_X3_find : GoodIn wsX3_beginDay (wsV RX3 33 RX3 yX3_find wsX3_find) := goodIn_app (goodIn_of _ (by decide +kernel)) ggX3_beginDay_X3_find
set_option maxRecDepth 20000 in
theorem ggX3_beginDay_X6_beginDay : GoodIn wsX3_beginDay wsX6_beginDay := goodIn_r _ [15, 16, 17, 18, 19, 20, 21, 14, 22, 23, 8, 9, 10, 27, 28, 29, 30, 31, 32, 33, 34, 35, 36, 37, 38] (by decide +kernel) (by decide +kernel)
set_option maxRecDepth 20000 in
theorem gX3_beginDay_X6_beginDay : GoodIn wsX3_beginDay (wsV RX3 37 RX6 yX6_beginDay wsX6_beginDay) := goodIn_app (goodIn_of _ (by decide +kernel)) ggX3_beginDay_X6_beginDay
theorem dX3_beginDay_0 : decode cX3_beginDay 0 = .ok (.iconst 0, 1) := by decide +kernel
theorem dX3_beginDay_1 : decode cX3_beginDay 1 = .ok (.istore_n 1, 1) := by decide +kernel
theorem dX3_beginDay_2 : decode cX3_beginDay 2 = .ok (.iload_n 1, 1) := by decide +kernel
theorem dX3_beginDay_3 : decode cX3_beginDay 3 = .ok (.aload_n 0, 1) := by decide +kernel
theorem dX3_beginDay_4 : decode cX3_beginDay 4 = .ok (.getfield 21, 3) := by decide +kernel
theorem dX3_beginDay_7 : decode cX3_beginDay 7 = .ok (.if_icmp .ge 23, 3) := by decide +kernel
theorem dX3_beginDay_10 : decode cX3_beginDay 10 = .ok (.aload_n 0, 1) := by decide +kernel
theorem dX3_beginDay_11 : decode cX3_beginDay 11 = .ok (.iload_n 1, 1) := by decide +kernel
theorem dX3_beginDay_12 : decode cX3_beginDay 12 = .ok (.invokevirtual 33, 3) := by decide +kernel
theorem dX3_beginDay_15 : decode cX3_beginDay 15 = .ok (.astore_n 2, 1) := by decide +kernel
theorem dX3_beginDay_16 : decode cX3_beginDay 16 = .ok (.aload_n 2, 1) := by decide +kernel
theorem dX3_beginDay_17 : decode cX3_beginDay 17 = .ok (.ifnull 7, 3) := by decide +kernel
theorem dX3_beginDay_20 : decode cX3_beginDay 20 = .ok (.aload_n 2, 1) := by decide +kernel
theorem dX3_beginDay_21 : decode cX3_beginDay 21 = .ok (.invokevirtual 37, 3) := by decide +kernel
theorem dX3_beginDay_24 : decode cX3_beginDay 24 = .ok (.iinc 1 1, 3) := by decide +kernel
theorem dX3_beginDay_27 : decode cX3_beginDay 27 = .ok (.goto (-25), 3) := by decide +kernel
theorem dX3_beginDay_30 : decode cX3_beginDay 30 = .ok (.return_, 1) := by decide +kernel
set_option maxRecDepth 20000 in
theorem ggX3_lineUp_X3_isAhead : GoodIn wsX3_lineUp wsX3_isAhead := goodIn_r _ [7, 8, 9, 10, 11, 12, 6, 13, 1, 14, 15, 16, 17, 21, 22, 23, 24, 25, 26, 27, 28, 29, 30, 31, 32, 18, 19, 20] (by decide +kernel) (by decide +kernel)
set_option maxRecDepth 20000 in
theorem gX3_lineUp_X3_isAhead : GoodIn wsX3_lineUp (wsV RX3 40 RX3 yX3_isAhead wsX3_isAhead) := goodIn_app (goodIn_of _ (by decide +kernel)) ggX3_lineUp_X3_isAhead
theorem dX3_lineUp_0 : decode cX3_lineUp 0 = .ok (.iconst 0, 1) := by decide +kernel
theorem dX3_lineUp_1 : decode cX3_lineUp 1 = .ok (.istore_n 2, 1) := by decide +kernel
theorem dX3_lineUp_2 : decode cX3_lineUp 2 = .ok (.iload_n 2, 1) := by decide +kernel
theorem dX3_lineUp_3 : decode cX3_lineUp 3 = .ok (.aload_n 0, 1) := by decide +kernel
theorem dX3_lineUp_4 : decode cX3_lineUp 4 = .ok (.getfield 21, 3) := by decide +kernel
theorem dX3_lineUp_7 : decode cX3_lineUp 7 = .ok (.if_icmp .ge 59, 3) := by decide +kernel
theorem dX3_lineUp_10 : decode cX3_lineUp 10 = .ok (.iload_n 2, 1) := by decide +kernel
theorem dX3_lineUp_11 : decode cX3_lineUp 11 = .ok (.istore_n 3, 1) := by decide +kernel
theorem dX3_lineUp_12 : decode cX3_lineUp 12 = .ok (.iload_n 3, 1) := by decide +kernel
theorem dX3_lineUp_13 : decode cX3_lineUp 13 = .ok (.ifCond .le 40, 3) := by decide +kernel
theorem dX3_lineUp_16 : decode cX3_lineUp 16 = .ok (.aload_n 0, 1) := by decide +kernel
theorem dX3_lineUp_17 : decode cX3_lineUp 17 = .ok (.iload_n 2, 1) := by decide +kernel
theorem dX3_lineUp_18 : decode cX3_lineUp 18 = .ok (.aload_n 0, 1) := by decide +kernel
theorem dX3_lineUp_19 : decode cX3_lineUp 19 = .ok (.getfield 17, 3) := by decide +kernel
theorem dX3_lineUp_22 : decode cX3_lineUp 22 = .ok (.iload_n 3, 1) := by decide +kernel
theorem dX3_lineUp_23 : decode cX3_lineUp 23 = .ok (.iconst 1, 1) := by decide +kernel
theorem dX3_lineUp_24 : decode cX3_lineUp 24 = .ok (.isub, 1) := by decide +kernel
theorem dX3_lineUp_25 : decode cX3_lineUp 25 = .ok (.iaload, 1) := by decide +kernel
theorem dX3_lineUp_26 : decode cX3_lineUp 26 = .ok (.iload_n 1, 1) := by decide +kernel
theorem dX3_lineUp_27 : decode cX3_lineUp 27 = .ok (.invokevirtual 40, 3) := by decide +kernel
theorem dX3_lineUp_30 : decode cX3_lineUp 30 = .ok (.ifCond .eq 23, 3) := by decide +kernel
theorem dX3_lineUp_33 : decode cX3_lineUp 33 = .ok (.aload_n 0, 1) := by decide +kernel
theorem dX3_lineUp_34 : decode cX3_lineUp 34 = .ok (.getfield 17, 3) := by decide +kernel
theorem dX3_lineUp_37 : decode cX3_lineUp 37 = .ok (.iload_n 3, 1) := by decide +kernel
theorem dX3_lineUp_38 : decode cX3_lineUp 38 = .ok (.aload_n 0, 1) := by decide +kernel
theorem dX3_lineUp_39 : decode cX3_lineUp 39 = .ok (.getfield 17, 3) := by decide +kernel
theorem dX3_lineUp_42 : decode cX3_lineUp 42 = .ok (.iload_n 3, 1) := by decide +kernel
theorem dX3_lineUp_43 : decode cX3_lineUp 43 = .ok (.iconst 1, 1) := by decide +kernel
theorem dX3_lineUp_44 : decode cX3_lineUp 44 = .ok (.isub, 1) := by decide +kernel
theorem dX3_lineUp_45 : decode cX3_lineUp 45 = .ok (.iaload, 1) := by decide +kernel
theorem dX3_lineUp_46 : decode cX3_lineUp 46 = .ok (.iastore, 1) := by decide +kernel
theorem dX3_lineUp_47 : decode cX3_lineUp 47 = .ok (.iinc 3 (-1), 3) := by decide +kernel
theorem dX3_lineUp_50 : decode cX3_lineUp 50 = .ok (.goto (-38), 3) := by decide +kernel
theorem dX3_lineUp_53 : decode cX3_lineUp 53 = .ok (.aload_n 0, 1) := by decide +kernel
theorem dX3_lineUp_54 : decode cX3_lineUp 54 = .ok (.getfield 17, 3) := by decide +kernel
theorem dX3_lineUp_57 : decode cX3_lineUp 57 = .ok (.iload_n 3, 1) := by decide +kernel
theorem dX3_lineUp_58 : decode cX3_lineUp 58 = .ok (.iload_n 2, 1) := by decide +kernel
theorem dX3_lineUp_59 : decode cX3_lineUp 59 = .ok (.iastore, 1) := by decide +kernel
theorem dX3_lineUp_60 : decode cX3_lineUp 60 = .ok (.iinc 2 1, 3) := by decide +kernel
theorem dX3_lineUp_63 : decode cX3_lineUp 63 = .ok (.goto (-61), 3) := by decide +kernel
theorem dX3_lineUp_66 : decode cX3_lineUp 66 = .ok (.return_, 1) := by decide +kernel
set_option maxRecDepth 20000 in
theorem ggX3_isAhead_X3_find : GoodIn wsX3_isAhead wsX3_find := goodIn_r _ [7, 8, 9, 10, 11, 12, 25, 26, 27] (by decide +kernel) (by decide +kernel)
set_option maxRecDepth 20000 in
theorem gX3_isAhead_X3_find : GoodIn wsX3_isAhead (wsV RX3 33 RX3 yX3_find wsX3_find) := goodIn_app (goodIn_of _ (by decide +kernel)) ggX3_isAhead_X3_find
theorem dX3_isAhead_0 : decode cX3_isAhead 0 = .ok (.aload_n 0, 1) := by decide +kernel
theorem dX3_isAhead_1 : decode cX3_isAhead 1 = .ok (.iload_n 1, 1) := by decide +kernel
theorem dX3_isAhead_2 : decode cX3_isAhead 2 = .ok (.invokevirtual 33, 3) := by decide +kernel
theorem dX3_isAhead_5 : decode cX3_isAhead 5 = .ok (.astore 4, 2) := by decide +kernel
theorem dX3_isAhead_7 : decode cX3_isAhead 7 = .ok (.aload_n 0, 1) := by decide +kernel
theorem dX3_isAhead_8 : decode cX3_isAhead 8 = .ok (.iload_n 2, 1) := by decide +kernel
theorem dX3_isAhead_9 : decode cX3_isAhead 9 = .ok (.invokevirtual 33, 3) := by decide +kernel
theorem dX3_isAhead_12 : decode cX3_isAhead 12 = .ok (.astore 5, 2) := by decide +kernel
theorem dX3_isAhead_14 : decode cX3_isAhead 14 = .ok (.aload 4, 2) := by decide +kernel
theorem dX3_isAhead_16 : decode cX3_isAhead 16 = .ok (.ifnull 8, 3) := by decide +kernel
theorem dX3_isAhead_19 : decode cX3_isAhead 19 = .ok (.aload 5, 2) := by decide +kernel
theorem dX3_isAhead_21 : decode cX3_isAhead 21 = .ok (.ifnonnull 5, 3) := by decide +kernel
theorem dX3_isAhead_24 : decode cX3_isAhead 24 = .ok (.iconst 0, 1) := by decide +kernel
theorem dX3_isAhead_25 : decode cX3_isAhead 25 = .ok (.ireturn, 1) := by decide +kernel
theorem dX3_isAhead_26 : decode cX3_isAhead 26 = .ok (.iload_n 3, 1) := by decide +kernel
theorem dX3_isAhead_27 : decode cX3_isAhead 27 = .ok (.ifCond .ne 22, 3) := by decide +kernel
theorem dX3_isAhead_30 : decode cX3_isAhead 30 = .ok (.aload 4, 2) := by decide +kernel
theorem dX3_isAhead_32 : decode cX3_isAhead 32 = .ok (.getfield 44, 3) := by decide +kernel
theorem dX3_isAhead_35 : decode cX3_isAhead 35 = .ok (.aload 5, 2) := by decide +kernel
theorem dX3_isAhead_37 : decode cX3_isAhead 37 = .ok (.getfield 44, 3) := by decide +kernel
theorem dX3_isAhead_40 : decode cX3_isAhead 40 = .ok (.if_icmp .ge 7, 3) := by decide +kernel
theorem dX3_isAhead_43 : decode cX3_isAhead 43 = .ok (.iconst 1, 1) := by decide +kernel
theorem dX3_isAhead_44 : decode cX3_isAhead 44 = .ok (.goto 4, 3) := by decide +kernel
theorem dX3_isAhead_47 : decode cX3_isAhead 47 = .ok (.iconst 0, 1) := by decide +kernel
theorem dX3_isAhead_48 : decode cX3_isAhead 48 = .ok (.ireturn, 1) := by decide +kernel
theorem dX3_isAhead_49 : decode cX3_isAhead 49 = .ok (.iload_n 3, 1) := by decide +kernel
theorem dX3_isAhead_50 : decode cX3_isAhead 50 = .ok (.iconst 1, 1) := by decide +kernel
theorem dX3_isAhead_51 : decode cX3_isAhead 51 = .ok (.if_icmp .ne 20, 3) := by decide +kernel
theorem dX3_isAhead_54 : decode cX3_isAhead 54 = .ok (.aload 4, 2) := by decide +kernel
theorem dX3_isAhead_56 : decode cX3_isAhead 56 = .ok (.getfield 47, 3) := by decide +kernel
theorem dX3_isAhead_59 : decode cX3_isAhead 59 = .ok (.aload 5, 2) := by decide +kernel
theorem dX3_isAhead_61 : decode cX3_isAhead 61 = .ok (.getfield 47, 3) := by decide +kernel
theorem dX3_isAhead_64 : decode cX3_isAhead 64 = .ok (.if_icmp .le 7, 3) := by decide +kernel
theorem dX3_isAhead_67 : decode cX3_isAhead 67 = .ok (.iconst 1, 1) := by decide +kernel
theorem dX3_isAhead_68 : decode cX3_isAhead 68 = .ok (.goto 4, 3) := by decide +kernel
theorem dX3_isAhead_71 : decode cX3_isAhead 71 = .ok (.iconst 0, 1) := by decide +kernel
theorem dX3_isAhead_72 : decode cX3_isAhead 72 = .ok (.ireturn, 1) := by decide +kernel
set_option maxRecDepth 20000 in
theorem ggX3_boatsIn_X3_find : GoodIn wsX3_boatsIn wsX3_find := goodIn_r _ [8, 1, 9, 10, 11, 12, 13, 14, 15] (by decide +kernel) (by decide +kernel)
set_option maxRecDepth 20000 in
theorem gX3_boatsIn_X3_find : GoodIn wsX3_boatsIn (wsV RX3 33 RX3 yX3_find wsX3_find) := goodIn_app (goodIn_of _ (by decide +kernel)) ggX3_boatsIn_X3_find
theorem dX3_boatsIn_0 : decode cX3_boatsIn 0 = .ok (.iconst 0, 1) := by decide +kernel
theorem dX3_boatsIn_1 : decode cX3_boatsIn 1 = .ok (.istore_n 2, 1) := by decide +kernel
theorem dX3_boatsIn_2 : decode cX3_boatsIn 2 = .ok (.iconst 0, 1) := by decide +kernel
theorem dX3_boatsIn_3 : decode cX3_boatsIn 3 = .ok (.istore_n 3, 1) := by decide +kernel
theorem dX3_boatsIn_4 : decode cX3_boatsIn 4 = .ok (.iload_n 3, 1) := by decide +kernel
theorem dX3_boatsIn_5 : decode cX3_boatsIn 5 = .ok (.aload_n 0, 1) := by decide +kernel
theorem dX3_boatsIn_6 : decode cX3_boatsIn 6 = .ok (.getfield 21, 3) := by decide +kernel
theorem dX3_boatsIn_9 : decode cX3_boatsIn 9 = .ok (.if_icmp .ge 38, 3) := by decide +kernel
theorem dX3_boatsIn_12 : decode cX3_boatsIn 12 = .ok (.aload_n 0, 1) := by decide +kernel
theorem dX3_boatsIn_13 : decode cX3_boatsIn 13 = .ok (.iload_n 3, 1) := by decide +kernel
theorem dX3_boatsIn_14 : decode cX3_boatsIn 14 = .ok (.invokevirtual 33, 3) := by decide +kernel
theorem dX3_boatsIn_17 : decode cX3_boatsIn 17 = .ok (.astore 4, 2) := by decide +kernel
theorem dX3_boatsIn_19 : decode cX3_boatsIn 19 = .ok (.aload 4, 2) := by decide +kernel
theorem dX3_boatsIn_21 : decode cX3_boatsIn 21 = .ok (.ifnull 20, 3) := by decide +kernel
theorem dX3_boatsIn_24 : decode cX3_boatsIn 24 = .ok (.aload 4, 2) := by decide +kernel
theorem dX3_boatsIn_26 : decode cX3_boatsIn 26 = .ok (.getfield 50, 3) := by decide +kernel
theorem dX3_boatsIn_29 : decode cX3_boatsIn 29 = .ok (.iload_n 1, 1) := by decide +kernel
theorem dX3_boatsIn_30 : decode cX3_boatsIn 30 = .ok (.if_icmp .ne 11, 3) := by decide +kernel
theorem dX3_boatsIn_33 : decode cX3_boatsIn 33 = .ok (.iload_n 2, 1) := by decide +kernel
theorem dX3_boatsIn_34 : decode cX3_boatsIn 34 = .ok (.aload 4, 2) := by decide +kernel
theorem dX3_boatsIn_36 : decode cX3_boatsIn 36 = .ok (.getfield 47, 3) := by decide +kernel
theorem dX3_boatsIn_39 : decode cX3_boatsIn 39 = .ok (.iadd, 1) := by decide +kernel
theorem dX3_boatsIn_40 : decode cX3_boatsIn 40 = .ok (.istore_n 2, 1) := by decide +kernel
theorem dX3_boatsIn_41 : decode cX3_boatsIn 41 = .ok (.iinc 3 1, 3) := by decide +kernel
theorem dX3_boatsIn_44 : decode cX3_boatsIn 44 = .ok (.goto (-40), 3) := by decide +kernel
theorem dX3_boatsIn_47 : decode cX3_boatsIn 47 = .ok (.iload_n 2, 1) := by decide +kernel
theorem dX3_boatsIn_48 : decode cX3_boatsIn 48 = .ok (.ireturn, 1) := by decide +kernel
set_option maxRecDepth 20000 in
theorem ggX3_bagsComeOf_X3_find : GoodIn wsX3_bagsComeOf wsX3_find := goodIn_r _ [7, 1, 8, 9, 10, 11, 24, 25, 26] (by decide +kernel) (by decide +kernel)
set_option maxRecDepth 20000 in
theorem gX3_bagsComeOf_X3_find : GoodIn wsX3_bagsComeOf (wsV RX3 33 RX3 yX3_find wsX3_find) := goodIn_app (goodIn_of _ (by decide +kernel)) ggX3_bagsComeOf_X3_find
set_option maxRecDepth 20000 in
theorem ggX3_bagsComeOf_X6_hasCome : GoodIn wsX3_bagsComeOf wsX6_hasCome := goodIn_r _ [16, 17, 27, 28, 29, 30, 31, 32, 33, 34, 35, 36, 37, 38] (by decide +kernel) (by decide +kernel)
set_option maxRecDepth 20000 in
theorem gX3_bagsComeOf_X6_hasCome : GoodIn wsX3_bagsComeOf (wsV RX3 53 RX6 yX6_hasCome wsX6_hasCome) := goodIn_app (goodIn_of _ (by decide +kernel)) ggX3_bagsComeOf_X6_hasCome
set_option maxRecDepth 20000 in
theorem ggX3_bagsComeOf_X6_bagsLeft : GoodIn wsX3_bagsComeOf wsX6_bagsLeft := goodIn_r _ [21, 22, 23, 27, 28, 29, 30, 31, 32, 33, 34, 35, 36, 37, 38] (by decide +kernel) (by decide +kernel)
set_option maxRecDepth 20000 in
theorem gX3_bagsComeOf_X6_bagsLeft : GoodIn wsX3_bagsComeOf (wsV RX3 56 RX6 yX6_bagsLeft wsX6_bagsLeft) := goodIn_app (goodIn_of _ (by decide +kernel)) ggX3_bagsComeOf_X6_bagsLeft
theorem dX3_bagsComeOf_0 : decode cX3_bagsComeOf 0 = .ok (.iconst 0, 1) := by decide +kernel
theorem dX3_bagsComeOf_1 : decode cX3_bagsComeOf 1 = .ok (.istore_n 2, 1) := by decide +kernel
theorem dX3_bagsComeOf_2 : decode cX3_bagsComeOf 2 = .ok (.iconst 0, 1) := by decide +kernel
theorem dX3_bagsComeOf_3 : decode cX3_bagsComeOf 3 = .ok (.istore_n 3, 1) := by decide +kernel
theorem dX3_bagsComeOf_4 : decode cX3_bagsComeOf 4 = .ok (.iload_n 3, 1) := by decide +kernel
theorem dX3_bagsComeOf_5 : decode cX3_bagsComeOf 5 = .ok (.aload_n 0, 1) := by decide +kernel
theorem dX3_bagsComeOf_6 : decode cX3_bagsComeOf 6 = .ok (.getfield 21, 3) := by decide +kernel
theorem dX3_bagsComeOf_9 : decode cX3_bagsComeOf 9 = .ok (.if_icmp .ge 46, 3) := by decide +kernel
theorem dX3_bagsComeOf_12 : decode cX3_bagsComeOf 12 = .ok (.aload_n 0, 1) := by decide +kernel
theorem dX3_bagsComeOf_13 : decode cX3_bagsComeOf 13 = .ok (.iload_n 3, 1) := by decide +kernel
theorem dX3_bagsComeOf_14 : decode cX3_bagsComeOf 14 = .ok (.invokevirtual 33, 3) := by decide +kernel
theorem dX3_bagsComeOf_17 : decode cX3_bagsComeOf 17 = .ok (.astore 4, 2) := by decide +kernel
theorem dX3_bagsComeOf_19 : decode cX3_bagsComeOf 19 = .ok (.aload 4, 2) := by decide +kernel
theorem dX3_bagsComeOf_21 : decode cX3_bagsComeOf 21 = .ok (.ifnull 28, 3) := by decide +kernel
theorem dX3_bagsComeOf_24 : decode cX3_bagsComeOf 24 = .ok (.aload 4, 2) := by decide +kernel
theorem dX3_bagsComeOf_26 : decode cX3_bagsComeOf 26 = .ok (.getfield 44, 3) := by decide +kernel
theorem dX3_bagsComeOf_29 : decode cX3_bagsComeOf 29 = .ok (.iload_n 1, 1) := by decide +kernel
theorem dX3_bagsComeOf_30 : decode cX3_bagsComeOf 30 = .ok (.if_icmp .ne 19, 3) := by decide +kernel
theorem dX3_bagsComeOf_33 : decode cX3_bagsComeOf 33 = .ok (.aload 4, 2) := by decide +kernel
theorem dX3_bagsComeOf_35 : decode cX3_bagsComeOf 35 = .ok (.invokevirtual 53, 3) := by decide +kernel
theorem dX3_bagsComeOf_38 : decode cX3_bagsComeOf 38 = .ok (.ifCond .eq 11, 3) := by decide +kernel
theorem dX3_bagsComeOf_41 : decode cX3_bagsComeOf 41 = .ok (.iload_n 2, 1) := by decide +kernel
theorem dX3_bagsComeOf_42 : decode cX3_bagsComeOf 42 = .ok (.aload 4, 2) := by decide +kernel
theorem dX3_bagsComeOf_44 : decode cX3_bagsComeOf 44 = .ok (.invokevirtual 56, 3) := by decide +kernel
theorem dX3_bagsComeOf_47 : decode cX3_bagsComeOf 47 = .ok (.iadd, 1) := by decide +kernel
theorem dX3_bagsComeOf_48 : decode cX3_bagsComeOf 48 = .ok (.istore_n 2, 1) := by decide +kernel
theorem dX3_bagsComeOf_49 : decode cX3_bagsComeOf 49 = .ok (.iinc 3 1, 3) := by decide +kernel
theorem dX3_bagsComeOf_52 : decode cX3_bagsComeOf 52 = .ok (.goto (-48), 3) := by decide +kernel
theorem dX3_bagsComeOf_55 : decode cX3_bagsComeOf 55 = .ok (.iload_n 2, 1) := by decide +kernel
theorem dX3_bagsComeOf_56 : decode cX3_bagsComeOf 56 = .ok (.ireturn, 1) := by decide +kernel
set_option maxRecDepth 20000 in
theorem ggX3_come_X3_find : GoodIn wsX3_come wsX3_find := goodIn_r _ [6, 1, 7, 8, 9, 10, 17, 18, 19] (by decide +kernel) (by decide +kernel)
set_option maxRecDepth 20000 in
theorem gX3_come_X3_find : GoodIn wsX3_come (wsV RX3 33 RX3 yX3_find wsX3_find) := goodIn_app (goodIn_of _ (by decide +kernel)) ggX3_come_X3_find
set_option maxRecDepth 20000 in
theorem ggX3_come_X6_hasCome : GoodIn wsX3_come wsX6_hasCome := goodIn_r _ [15, 16, 20, 21, 22, 23, 24, 25, 26, 27, 28, 29, 30, 31] (by decide +kernel) (by decide +kernel)
set_option maxRecDepth 20000 in
theorem gX3_come_X6_hasCome : GoodIn wsX3_come (wsV RX3 53 RX6 yX6_hasCome wsX6_hasCome) := goodIn_app (goodIn_of _ (by decide +kernel)) ggX3_come_X6_hasCome
theorem dX3_come_0 : decode cX3_come 0 = .ok (.iconst 0, 1) := by decide +kernel
theorem dX3_come_1 : decode cX3_come 1 = .ok (.istore_n 1, 1) := by decide +kernel
theorem dX3_come_2 : decode cX3_come 2 = .ok (.iconst 0, 1) := by decide +kernel
theorem dX3_come_3 : decode cX3_come 3 = .ok (.istore_n 2, 1) := by decide +kernel
theorem dX3_come_4 : decode cX3_come 4 = .ok (.iload_n 2, 1) := by decide +kernel
theorem dX3_come_5 : decode cX3_come 5 = .ok (.aload_n 0, 1) := by decide +kernel
theorem dX3_come_6 : decode cX3_come 6 = .ok (.getfield 21, 3) := by decide +kernel
theorem dX3_come_9 : decode cX3_come 9 = .ok (.if_icmp .ge 29, 3) := by decide +kernel
theorem dX3_come_12 : decode cX3_come 12 = .ok (.aload_n 0, 1) := by decide +kernel
theorem dX3_come_13 : decode cX3_come 13 = .ok (.iload_n 2, 1) := by decide +kernel
theorem dX3_come_14 : decode cX3_come 14 = .ok (.invokevirtual 33, 3) := by decide +kernel
theorem dX3_come_17 : decode cX3_come 17 = .ok (.astore_n 3, 1) := by decide +kernel
theorem dX3_come_18 : decode cX3_come 18 = .ok (.aload_n 3, 1) := by decide +kernel
theorem dX3_come_19 : decode cX3_come 19 = .ok (.ifnull 13, 3) := by decide +kernel
theorem dX3_come_22 : decode cX3_come 22 = .ok (.aload_n 3, 1) := by decide +kernel
theorem dX3_come_23 : decode cX3_come 23 = .ok (.invokevirtual 53, 3) := by decide +kernel
theorem dX3_come_26 : decode cX3_come 26 = .ok (.ifCond .eq 6, 3) := by decide +kernel
theorem dX3_come_29 : decode cX3_come 29 = .ok (.iinc 1 1, 3) := by decide +kernel
theorem dX3_come_32 : decode cX3_come 32 = .ok (.iinc 2 1, 3) := by decide +kernel
theorem dX3_come_35 : decode cX3_come 35 = .ok (.goto (-31), 3) := by decide +kernel
theorem dX3_come_38 : decode cX3_come 38 = .ok (.iload_n 1, 1) := by decide +kernel
theorem dX3_come_39 : decode cX3_come 39 = .ok (.ireturn, 1) := by decide +kernel
theorem dX4_init_0 : decode cX4_init 0 = .ok (.aload_n 0, 1) := by decide +kernel
theorem dX4_init_1 : decode cX4_init 1 = .ok (.invokespecial 3, 3) := by decide +kernel
theorem dX4_init_4 : decode cX4_init 4 = .ok (.aload_n 0, 1) := by decide +kernel
theorem dX4_init_5 : decode cX4_init 5 = .ok (.aload_n 1, 1) := by decide +kernel
theorem dX4_init_6 : decode cX4_init 6 = .ok (.putfield 9, 3) := by decide +kernel
theorem dX4_init_9 : decode cX4_init 9 = .ok (.aload_n 0, 1) := by decide +kernel
theorem dX4_init_10 : decode cX4_init 10 = .ok (.iconst 0, 1) := by decide +kernel
theorem dX4_init_11 : decode cX4_init 11 = .ok (.putfield 15, 3) := by decide +kernel
theorem dX4_init_14 : decode cX4_init 14 = .ok (.aload_n 0, 1) := by decide +kernel
theorem dX4_init_15 : decode cX4_init 15 = .ok (.iconst 0, 1) := by decide +kernel
theorem dX4_init_16 : decode cX4_init 16 = .ok (.putfield 19, 3) := by decide +kernel
theorem dX4_init_19 : decode cX4_init 19 = .ok (.aload_n 0, 1) := by decide +kernel
theorem dX4_init_20 : decode cX4_init 20 = .ok (.iconst 0, 1) := by decide +kernel
theorem dX4_init_21 : decode cX4_init 21 = .ok (.putfield 22, 3) := by decide +kernel
theorem dX4_init_24 : decode cX4_init 24 = .ok (.aload_n 0, 1) := by decide +kernel
theorem dX4_init_25 : decode cX4_init 25 = .ok (.iconst 0, 1) := by decide +kernel
theorem dX4_init_26 : decode cX4_init 26 = .ok (.putfield 25, 3) := by decide +kernel
theorem dX4_init_29 : decode cX4_init 29 = .ok (.return_, 1) := by decide +kernel
set_option maxRecDepth 20000 in
theorem ggX4_read_X4_step : GoodIn wsX4_read wsX4_step := goodIn_r _ [9, 2, 4, 1, 10, 3, 11, 12, 13, 14, 15, 16, 17, 18, 19, 8, 20, 21, 22, 23, 110, 111, 112, 113, 114, 115, 116] (by decide +kernel) (by decide +kernel)
set_option maxRecDepth 20000 in
theorem gX4_read_X4_step : GoodIn wsX4_read (wsV RX4 28 RX4 yX4_step wsX4_step) := goodIn_app (goodIn_of _ (by decide +kernel)) ggX4_read_X4_step
set_option maxRecDepth 20000 in
theorem ggX4_read_X4_takeStatement : GoodIn wsX4_read wsX4_takeStatement := goodIn_r _ [27, 28, 29, 30, 31, 32, 33, 8, 34, 3, 2, 4, 10, 35, 36, 37, 38, 39, 40, 41, 42, 43, 44, 45, 46, 11, 12, 13, 14, 15, 16, 17, 47, 48, 49, 50, 51, 52, 53, 54, 55, 56, 57, 58, 59, 60, 61, 62, 63, 64, 65, 66, 67, 68, 69, 70, 71, 72, 73, 74, 75, 76, 77, 78, 79, 80, 81, 82, 83, 84, 85, 86, 87, 88, 5, 6, 7, 9, 1, 18, 19, 20, 21, 22, 23, 89, 90, 91, 92, 93, 94, 95, 96, 97, 98, 99, 100, 101, 102, 103, 104, 105, 106, 107, 108, 109, 117, 118, 119, 120, 121, 122, 123, 110, 111, 112, 113, 114, 115, 116] (by decide +kernel) (by decide +kernel)
set_option maxRecDepth 20000 in
theorem gX4_read_X4_takeStatement : GoodIn wsX4_read (wsV RX4 31 RX4 yX4_takeStatement wsX4_takeStatement) := goodIn_app (goodIn_of _ (by decide +kernel)) ggX4_read_X4_takeStatement
theorem dX4_read_0 : decode cX4_read 0 = .ok (.aload_n 0, 1) := by decide +kernel
theorem dX4_read_1 : decode cX4_read 1 = .ok (.iload_n 1, 1) := by decide +kernel
theorem dX4_read_2 : decode cX4_read 2 = .ok (.putfield 15, 3) := by decide +kernel
theorem dX4_read_5 : decode cX4_read 5 = .ok (.aload_n 0, 1) := by decide +kernel
theorem dX4_read_6 : decode cX4_read 6 = .ok (.iconst 0, 1) := by decide +kernel
theorem dX4_read_7 : decode cX4_read 7 = .ok (.putfield 22, 3) := by decide +kernel
theorem dX4_read_10 : decode cX4_read 10 = .ok (.iconst 0, 1) := by decide +kernel
theorem dX4_read_11 : decode cX4_read 11 = .ok (.istore_n 3, 1) := by decide +kernel
theorem dX4_read_12 : decode cX4_read 12 = .ok (.iload_n 3, 1) := by decide +kernel
theorem dX4_read_13 : decode cX4_read 13 = .ok (.bipush 16, 2) := by decide +kernel
theorem dX4_read_15 : decode cX4_read 15 = .ok (.if_icmp .ge 35, 3) := by decide +kernel
theorem dX4_read_18 : decode cX4_read 18 = .ok (.aload_n 0, 1) := by decide +kernel
theorem dX4_read_19 : decode cX4_read 19 = .ok (.invokevirtual 28, 3) := by decide +kernel
theorem dX4_read_22 : decode cX4_read 22 = .ok (.aload_n 0, 1) := by decide +kernel
theorem dX4_read_23 : decode cX4_read 23 = .ok (.getfield 25, 3) := by decide +kernel
theorem dX4_read_26 : decode cX4_read 26 = .ok (.ifCond .ne 5, 3) := by decide +kernel
theorem dX4_read_29 : decode cX4_read 29 = .ok (.iconst (-1), 1) := by decide +kernel
theorem dX4_read_30 : decode cX4_read 30 = .ok (.ireturn, 1) := by decide +kernel
theorem dX4_read_31 : decode cX4_read 31 = .ok (.aload_n 0, 1) := by decide +kernel
theorem dX4_read_32 : decode cX4_read 32 = .ok (.aload_n 2, 1) := by decide +kernel
theorem dX4_read_33 : decode cX4_read 33 = .ok (.invokevirtual 31, 3) := by decide +kernel
theorem dX4_read_36 : decode cX4_read 36 = .ok (.ifCond .ne 8, 3) := by decide +kernel
theorem dX4_read_39 : decode cX4_read 39 = .ok (.aload_n 0, 1) := by decide +kernel
theorem dX4_read_40 : decode cX4_read 40 = .ok (.getfield 19, 3) := by decide +kernel
theorem dX4_read_43 : decode cX4_read 43 = .ok (.ireturn, 1) := by decide +kernel
theorem dX4_read_44 : decode cX4_read 44 = .ok (.iinc 3 1, 3) := by decide +kernel
theorem dX4_read_47 : decode cX4_read 47 = .ok (.goto (-35), 3) := by decide +kernel
theorem dX4_read_50 : decode cX4_read 50 = .ok (.aload_n 0, 1) := by decide +kernel
theorem dX4_read_51 : decode cX4_read 51 = .ok (.invokevirtual 28, 3) := by decide +kernel
theorem dX4_read_54 : decode cX4_read 54 = .ok (.aload_n 0, 1) := by decide +kernel
theorem dX4_read_55 : decode cX4_read 55 = .ok (.getfield 25, 3) := by decide +kernel
theorem dX4_read_58 : decode cX4_read 58 = .ok (.ifCond .ne 7, 3) := by decide +kernel
theorem dX4_read_61 : decode cX4_read 61 = .ok (.iconst (-1), 1) := by decide +kernel
theorem dX4_read_62 : decode cX4_read 62 = .ok (.goto 7, 3) := by decide +kernel
theorem dX4_read_65 : decode cX4_read 65 = .ok (.aload_n 0, 1) := by decide +kernel
theorem dX4_read_66 : decode cX4_read 66 = .ok (.getfield 19, 3) := by decide +kernel
theorem dX4_read_69 : decode cX4_read 69 = .ok (.ireturn, 1) := by decide +kernel
set_option maxRecDepth 20000 in
theorem ggX4_takeStatement_X4_isWord : GoodIn wsX4_takeStatement wsX4_isWord := goodIn_r _ [8, 9, 10, 11, 12, 13, 14, 15, 16, 17, 18, 19, 20, 21, 22, 23, 24, 25, 26, 27, 28, 29, 30, 31, 32, 33, 34, 35, 36, 37, 38, 39, 40, 41, 42, 43, 44, 45, 46, 47, 48, 49, 50, 51, 52, 53, 54, 55, 56, 57, 58, 59, 60, 61, 62, 63, 64, 65, 66, 67, 68, 113, 114, 115, 116, 117, 118, 119] (by decide +kernel) (by decide +kernel)
set_option maxRecDepth 20000 in
theorem gX4_takeStatement_X4_isWord : GoodIn wsX4_takeStatement (wsV RX4 37 RX4 yX4_isWord wsX4_isWord) := goodIn_app (goodIn_of _ (by decide +kernel)) ggX4_takeStatement_X4_isWord
set_option maxRecDepth 20000 in
theorem ggX4_takeStatement_X4_takeOrder : GoodIn wsX4_takeStatement wsX4_takeOrder := goodIn_r _ [72, 73, 74, 75, 76, 7, 77, 10, 11, 78, 12, 9, 25, 26, 27, 28, 29, 30, 31, 79, 80, 81, 82, 83, 84, 4, 5, 6, 8, 13, 14, 15, 16, 17, 18, 19, 20, 21, 22, 23, 24, 32, 33, 34, 35, 36, 37, 38, 39, 40, 41, 42, 43, 44, 45, 46, 47, 48, 49, 50, 51, 52, 53, 54, 55, 56, 57, 58, 59, 60, 61, 62, 63, 64, 65, 66, 67, 68, 106, 107, 108, 109, 110, 111, 112, 113, 114, 115, 116, 117, 118, 119] (by decide +kernel) (by decide +kernel)
set_option maxRecDepth 20000 in
theorem gX4_takeStatement_X4_takeOrder : GoodIn wsX4_takeStatement (wsV RX4 41 RX4 yX4_takeOrder wsX4_takeOrder) := goodIn_app (goodIn_of _ (by decide +kernel)) ggX4_takeStatement_X4_takeOrder
set_option maxRecDepth 20000 in
theorem ggX4_takeStatement_X4_takeSemicolon : GoodIn wsX4_takeStatement wsX4_takeSemicolon := goodIn_r _ [88, 9, 74, 75, 76, 7, 77, 10, 11, 78, 12, 25, 26, 27, 28, 29, 30, 31, 79, 80, 81, 82, 83, 84, 113, 114, 115, 116, 117, 118, 119] (by decide +kernel) (by decide +kernel)
set_option maxRecDepth 20000 in
theorem gX4_takeStatement_X4_takeSemicolon : GoodIn wsX4_takeStatement (wsV RX4 44 RX4 yX4_takeSemicolon wsX4_takeSemicolon) := goodIn_app (goodIn_of _ (by decide +kernel)) ggX4_takeStatement_X4_takeSemicolon
set_option maxRecDepth 20000 in
theorem ggX4_takeStatement_X4_takeDays : GoodIn wsX4_takeStatement wsX4_takeDays := goodIn_r _ [92, 93, 94, 95, 7, 96, 9, 10, 11, 12, 74, 75, 76, 77, 78, 25, 26, 27, 28, 29, 30, 31, 79, 80, 81, 82, 83, 84, 4, 5, 6, 8, 13, 14, 15, 16, 17, 18, 19, 20, 21, 22, 23, 24, 32, 33, 34, 35, 36, 37, 38, 39, 40, 41, 42, 43, 44, 45, 46, 47, 48, 49, 50, 51, 52, 53, 54, 55, 56, 57, 58, 59, 60, 61, 62, 63, 64, 65, 66, 67, 68, 97, 98, 99, 100, 101, 102, 103, 104, 105, 113, 114, 115, 116, 117, 118, 119, 106, 107, 108, 109, 110, 111, 112] (by decide +kernel) (by decide +kernel)
set_option maxRecDepth 20000 in
theorem gX4_takeStatement_X4_takeDays : GoodIn wsX4_takeStatement (wsV RX4 50 RX4 yX4_takeDays wsX4_takeDays) := goodIn_app (goodIn_of _ (by decide +kernel)) ggX4_takeStatement_X4_takeDays
set_option maxRecDepth 20000 in
theorem ggX4_takeStatement_X4_takeNumber : GoodIn wsX4_takeStatement wsX4_takeNumber := goodIn_r _ [96, 9, 10, 11, 12, 74, 75, 76, 7, 77, 78, 25, 26, 27, 28, 29, 30, 31, 79, 80, 81, 82, 83, 84, 113, 114, 115, 116, 117, 118, 119] (by decide +kernel) (by decide +kernel)
set_option maxRecDepth 20000 in
theorem gX4_takeStatement_X4_takeNumber : GoodIn wsX4_takeStatement (wsV RX4 55 RX4 yX4_takeNumber wsX4_takeNumber) := goodIn_app (goodIn_of _ (by decide +kernel)) ggX4_takeStatement_X4_takeNumber
theorem dX4_takeStatement_0 : decode cX4_takeStatement 0 = .ok (.aload_n 0, 1) := by decide +kernel
theorem dX4_takeStatement_1 : decode cX4_takeStatement 1 = .ok (.ldc 35, 2) := by decide +kernel
theorem dX4_takeStatement_3 : decode cX4_takeStatement 3 = .ok (.invokevirtual 37, 3) := by decide +kernel
theorem dX4_takeStatement_6 : decode cX4_takeStatement 6 = .ok (.ifCond .eq 24, 3) := by decide +kernel
theorem dX4_takeStatement_9 : decode cX4_takeStatement 9 = .ok (.aload_n 0, 1) := by decide +kernel
theorem dX4_takeStatement_10 : decode cX4_takeStatement 10 = .ok (.aload_n 1, 1) := by decide +kernel
theorem dX4_takeStatement_11 : decode cX4_takeStatement 11 = .ok (.invokevirtual 41, 3) := by decide +kernel
theorem dX4_takeStatement_14 : decode cX4_takeStatement 14 = .ok (.ifCond .eq 14, 3) := by decide +kernel
theorem dX4_takeStatement_17 : decode cX4_takeStatement 17 = .ok (.aload_n 0, 1) := by decide +kernel
theorem dX4_takeStatement_18 : decode cX4_takeStatement 18 = .ok (.invokevirtual 44, 3) := by decide +kernel
theorem dX4_takeStatement_21 : decode cX4_takeStatement 21 = .ok (.ifCond .eq 7, 3) := by decide +kernel
theorem dX4_takeStatement_24 : decode cX4_takeStatement 24 = .ok (.iconst 1, 1) := by decide +kernel
theorem dX4_takeStatement_25 : decode cX4_takeStatement 25 = .ok (.goto 4, 3) := by decide +kernel
theorem dX4_takeStatement_28 : decode cX4_takeStatement 28 = .ok (.iconst 0, 1) := by decide +kernel
theorem dX4_takeStatement_29 : decode cX4_takeStatement 29 = .ok (.ireturn, 1) := by decide +kernel
theorem dX4_takeStatement_30 : decode cX4_takeStatement 30 = .ok (.aload_n 0, 1) := by decide +kernel
theorem dX4_takeStatement_31 : decode cX4_takeStatement 31 = .ok (.ldc 48, 2) := by decide +kernel
theorem dX4_takeStatement_33 : decode cX4_takeStatement 33 = .ok (.invokevirtual 37, 3) := by decide +kernel
theorem dX4_takeStatement_36 : decode cX4_takeStatement 36 = .ok (.ifCond .eq 24, 3) := by decide +kernel
theorem dX4_takeStatement_39 : decode cX4_takeStatement 39 = .ok (.aload_n 0, 1) := by decide +kernel
theorem dX4_takeStatement_40 : decode cX4_takeStatement 40 = .ok (.aload_n 1, 1) := by decide +kernel
theorem dX4_takeStatement_41 : decode cX4_takeStatement 41 = .ok (.invokevirtual 50, 3) := by decide +kernel
theorem dX4_takeStatement_44 : decode cX4_takeStatement 44 = .ok (.ifCond .eq 14, 3) := by decide +kernel
theorem dX4_takeStatement_47 : decode cX4_takeStatement 47 = .ok (.aload_n 0, 1) := by decide +kernel
theorem dX4_takeStatement_48 : decode cX4_takeStatement 48 = .ok (.invokevirtual 44, 3) := by decide +kernel
theorem dX4_takeStatement_51 : decode cX4_takeStatement 51 = .ok (.ifCond .eq 7, 3) := by decide +kernel
theorem dX4_takeStatement_54 : decode cX4_takeStatement 54 = .ok (.iconst 1, 1) := by decide +kernel
theorem dX4_takeStatement_55 : decode cX4_takeStatement 55 = .ok (.goto 4, 3) := by decide +kernel
theorem dX4_takeStatement_58 : decode cX4_takeStatement 58 = .ok (.iconst 0, 1) := by decide +kernel
theorem dX4_takeStatement_59 : decode cX4_takeStatement 59 = .ok (.ireturn, 1) := by decide +kernel
theorem dX4_takeStatement_60 : decode cX4_takeStatement 60 = .ok (.aload_n 0, 1) := by decide +kernel
theorem dX4_takeStatement_61 : decode cX4_takeStatement 61 = .ok (.ldc 53, 2) := by decide +kernel
theorem dX4_takeStatement_63 : decode cX4_takeStatement 63 = .ok (.invokevirtual 37, 3) := by decide +kernel
theorem dX4_takeStatement_66 : decode cX4_takeStatement 66 = .ok (.ifCond .eq 32, 3) := by decide +kernel
theorem dX4_takeStatement_69 : decode cX4_takeStatement 69 = .ok (.aload_n 1, 1) := by decide +kernel
theorem dX4_takeStatement_70 : decode cX4_takeStatement 70 = .ok (.aload_n 0, 1) := by decide +kernel
theorem dX4_takeStatement_71 : decode cX4_takeStatement 71 = .ok (.invokevirtual 55, 3) := by decide +kernel
theorem dX4_takeStatement_74 : decode cX4_takeStatement 74 = .ok (.putfield 59, 3) := by decide +kernel
theorem dX4_takeStatement_77 : decode cX4_takeStatement 77 = .ok (.aload_n 1, 1) := by decide +kernel
theorem dX4_takeStatement_78 : decode cX4_takeStatement 78 = .ok (.getfield 59, 3) := by decide +kernel
theorem dX4_takeStatement_81 : decode cX4_takeStatement 81 = .ok (.iconst (-1), 1) := by decide +kernel
theorem dX4_takeStatement_82 : decode cX4_takeStatement 82 = .ok (.if_icmp .eq 14, 3) := by decide +kernel
theorem dX4_takeStatement_85 : decode cX4_takeStatement 85 = .ok (.aload_n 0, 1) := by decide +kernel
theorem dX4_takeStatement_86 : decode cX4_takeStatement 86 = .ok (.invokevirtual 44, 3) := by decide +kernel
theorem dX4_takeStatement_89 : decode cX4_takeStatement 89 = .ok (.ifCond .eq 7, 3) := by decide +kernel
theorem dX4_takeStatement_92 : decode cX4_takeStatement 92 = .ok (.iconst 1, 1) := by decide +kernel
theorem dX4_takeStatement_93 : decode cX4_takeStatement 93 = .ok (.goto 4, 3) := by decide +kernel
theorem dX4_takeStatement_96 : decode cX4_takeStatement 96 = .ok (.iconst 0, 1) := by decide +kernel
theorem dX4_takeStatement_97 : decode cX4_takeStatement 97 = .ok (.ireturn, 1) := by decide +kernel
theorem dX4_takeStatement_98 : decode cX4_takeStatement 98 = .ok (.aload_n 0, 1) := by decide +kernel
theorem dX4_takeStatement_99 : decode cX4_takeStatement 99 = .ok (.ldc 63, 2) := by decide +kernel
theorem dX4_takeStatement_101 : decode cX4_takeStatement 101 = .ok (.invokevirtual 37, 3) := by decide +kernel
theorem dX4_takeStatement_104 : decode cX4_takeStatement 104 = .ok (.ifCond .eq 32, 3) := by decide +kernel
theorem dX4_takeStatement_107 : decode cX4_takeStatement 107 = .ok (.aload_n 1, 1) := by decide +kernel
theorem dX4_takeStatement_108 : decode cX4_takeStatement 108 = .ok (.aload_n 0, 1) := by decide +kernel
theorem dX4_takeStatement_109 : decode cX4_takeStatement 109 = .ok (.invokevirtual 55, 3) := by decide +kernel
theorem dX4_takeStatement_112 : decode cX4_takeStatement 112 = .ok (.putfield 65, 3) := by decide +kernel
theorem dX4_takeStatement_115 : decode cX4_takeStatement 115 = .ok (.aload_n 1, 1) := by decide +kernel
theorem dX4_takeStatement_116 : decode cX4_takeStatement 116 = .ok (.getfield 65, 3) := by decide +kernel
theorem dX4_takeStatement_119 : decode cX4_takeStatement 119 = .ok (.iconst (-1), 1) := by decide +kernel
theorem dX4_takeStatement_120 : decode cX4_takeStatement 120 = .ok (.if_icmp .eq 14, 3) := by decide +kernel
theorem dX4_takeStatement_123 : decode cX4_takeStatement 123 = .ok (.aload_n 0, 1) := by decide +kernel
theorem dX4_takeStatement_124 : decode cX4_takeStatement 124 = .ok (.invokevirtual 44, 3) := by decide +kernel
theorem dX4_takeStatement_127 : decode cX4_takeStatement 127 = .ok (.ifCond .eq 7, 3) := by decide +kernel
theorem dX4_takeStatement_130 : decode cX4_takeStatement 130 = .ok (.iconst 1, 1) := by decide +kernel
theorem dX4_takeStatement_131 : decode cX4_takeStatement 131 = .ok (.goto 4, 3) := by decide +kernel
theorem dX4_takeStatement_134 : decode cX4_takeStatement 134 = .ok (.iconst 0, 1) := by decide +kernel
theorem dX4_takeStatement_135 : decode cX4_takeStatement 135 = .ok (.ireturn, 1) := by decide +kernel
theorem dX4_takeStatement_136 : decode cX4_takeStatement 136 = .ok (.aload_n 0, 1) := by decide +kernel
theorem dX4_takeStatement_137 : decode cX4_takeStatement 137 = .ok (.ldc 68, 2) := by decide +kernel
theorem dX4_takeStatement_139 : decode cX4_takeStatement 139 = .ok (.invokevirtual 37, 3) := by decide +kernel
theorem dX4_takeStatement_142 : decode cX4_takeStatement 142 = .ok (.ifCond .eq 32, 3) := by decide +kernel
theorem dX4_takeStatement_145 : decode cX4_takeStatement 145 = .ok (.aload_n 1, 1) := by decide +kernel
theorem dX4_takeStatement_146 : decode cX4_takeStatement 146 = .ok (.aload_n 0, 1) := by decide +kernel
theorem dX4_takeStatement_147 : decode cX4_takeStatement 147 = .ok (.invokevirtual 55, 3) := by decide +kernel
theorem dX4_takeStatement_150 : decode cX4_takeStatement 150 = .ok (.putfield 70, 3) := by decide +kernel
theorem dX4_takeStatement_153 : decode cX4_takeStatement 153 = .ok (.aload_n 1, 1) := by decide +kernel
theorem dX4_takeStatement_154 : decode cX4_takeStatement 154 = .ok (.getfield 70, 3) := by decide +kernel
theorem dX4_takeStatement_157 : decode cX4_takeStatement 157 = .ok (.iconst (-1), 1) := by decide +kernel
theorem dX4_takeStatement_158 : decode cX4_takeStatement 158 = .ok (.if_icmp .eq 14, 3) := by decide +kernel
theorem dX4_takeStatement_161 : decode cX4_takeStatement 161 = .ok (.aload_n 0, 1) := by decide +kernel
theorem dX4_takeStatement_162 : decode cX4_takeStatement 162 = .ok (.invokevirtual 44, 3) := by decide +kernel
theorem dX4_takeStatement_165 : decode cX4_takeStatement 165 = .ok (.ifCond .eq 7, 3) := by decide +kernel
theorem dX4_takeStatement_168 : decode cX4_takeStatement 168 = .ok (.iconst 1, 1) := by decide +kernel
theorem dX4_takeStatement_169 : decode cX4_takeStatement 169 = .ok (.goto 4, 3) := by decide +kernel
theorem dX4_takeStatement_172 : decode cX4_takeStatement 172 = .ok (.iconst 0, 1) := by decide +kernel
theorem dX4_takeStatement_173 : decode cX4_takeStatement 173 = .ok (.ireturn, 1) := by decide +kernel
theorem dX4_takeStatement_174 : decode cX4_takeStatement 174 = .ok (.iconst 0, 1) := by decide +kernel
theorem dX4_takeStatement_175 : decode cX4_takeStatement 175 = .ok (.ireturn, 1) := by decide +kernel
set_option maxRecDepth 20000 in
theorem ggX4_takeOrder_X4_step : GoodIn wsX4_takeOrder wsX4_step := goodIn_r _ [6, 7, 8, 9, 10, 11, 12, 13, 14, 15, 16, 17, 18, 19, 20, 5, 21, 22, 23, 24, 85, 86, 87, 88, 89, 90, 91] (by decide +kernel) (by decide +kernel)
set_option maxRecDepth 20000 in
theorem gX4_takeOrder_X4_step : GoodIn wsX4_takeOrder (wsV RX4 28 RX4 yX4_step wsX4_step) := goodIn_app (goodIn_of _ (by decide +kernel)) ggX4_takeOrder_X4_step
set_option maxRecDepth 20000 in
theorem ggX4_takeOrder_X4_isWord : GoodIn wsX4_takeOrder wsX4_isWord := goodIn_r _ [28, 11, 7, 8, 10, 29, 30, 31, 32, 33, 34, 35, 36, 37, 38, 39, 40, 12, 13, 14, 15, 16, 17, 18, 41, 42, 43, 44, 45, 46, 47, 48, 49, 50, 51, 52, 53, 54, 55, 56, 57, 58, 59, 60, 61, 62, 63, 64, 65, 66, 67, 68, 69, 70, 71, 72, 73, 74, 75, 76, 77, 85, 86, 87, 88, 89, 90, 91] (by decide +kernel) (by decide +kernel)
set_option maxRecDepth 20000 in
theorem gX4_takeOrder_X4_isWord : GoodIn wsX4_takeOrder (wsV RX4 37 RX4 yX4_isWord wsX4_isWord) := goodIn_app (goodIn_of _ (by decide +kernel)) ggX4_takeOrder_X4_isWord
theorem dX4_takeOrder_0 : decode cX4_takeOrder 0 = .ok (.aload_n 0, 1) := by decide +kernel
theorem dX4_takeOrder_1 : decode cX4_takeOrder 1 = .ok (.invokevirtual 28, 3) := by decide +kernel
theorem dX4_takeOrder_4 : decode cX4_takeOrder 4 = .ok (.aload_n 0, 1) := by decide +kernel
theorem dX4_takeOrder_5 : decode cX4_takeOrder 5 = .ok (.ldc 72, 2) := by decide +kernel
theorem dX4_takeOrder_7 : decode cX4_takeOrder 7 = .ok (.invokevirtual 37, 3) := by decide +kernel
theorem dX4_takeOrder_10 : decode cX4_takeOrder 10 = .ok (.ifCond .eq 11, 3) := by decide +kernel
theorem dX4_takeOrder_13 : decode cX4_takeOrder 13 = .ok (.aload_n 1, 1) := by decide +kernel
theorem dX4_takeOrder_14 : decode cX4_takeOrder 14 = .ok (.iconst 0, 1) := by decide +kernel
theorem dX4_takeOrder_15 : decode cX4_takeOrder 15 = .ok (.putfield 74, 3) := by decide +kernel
theorem dX4_takeOrder_18 : decode cX4_takeOrder 18 = .ok (.goto 39, 3) := by decide +kernel
theorem dX4_takeOrder_21 : decode cX4_takeOrder 21 = .ok (.aload_n 0, 1) := by decide +kernel
theorem dX4_takeOrder_22 : decode cX4_takeOrder 22 = .ok (.ldc 76, 2) := by decide +kernel
theorem dX4_takeOrder_24 : decode cX4_takeOrder 24 = .ok (.invokevirtual 37, 3) := by decide +kernel
theorem dX4_takeOrder_27 : decode cX4_takeOrder 27 = .ok (.ifCond .eq 11, 3) := by decide +kernel
theorem dX4_takeOrder_30 : decode cX4_takeOrder 30 = .ok (.aload_n 1, 1) := by decide +kernel
theorem dX4_takeOrder_31 : decode cX4_takeOrder 31 = .ok (.iconst 1, 1) := by decide +kernel
theorem dX4_takeOrder_32 : decode cX4_takeOrder 32 = .ok (.putfield 74, 3) := by decide +kernel
theorem dX4_takeOrder_35 : decode cX4_takeOrder 35 = .ok (.goto 22, 3) := by decide +kernel
theorem dX4_takeOrder_38 : decode cX4_takeOrder 38 = .ok (.aload_n 0, 1) := by decide +kernel
theorem dX4_takeOrder_39 : decode cX4_takeOrder 39 = .ok (.ldc 78, 2) := by decide +kernel
theorem dX4_takeOrder_41 : decode cX4_takeOrder 41 = .ok (.invokevirtual 37, 3) := by decide +kernel
theorem dX4_takeOrder_44 : decode cX4_takeOrder 44 = .ok (.ifCond .eq 11, 3) := by decide +kernel
theorem dX4_takeOrder_47 : decode cX4_takeOrder 47 = .ok (.aload_n 1, 1) := by decide +kernel
theorem dX4_takeOrder_48 : decode cX4_takeOrder 48 = .ok (.iconst 2, 1) := by decide +kernel
theorem dX4_takeOrder_49 : decode cX4_takeOrder 49 = .ok (.putfield 74, 3) := by decide +kernel
theorem dX4_takeOrder_52 : decode cX4_takeOrder 52 = .ok (.goto 5, 3) := by decide +kernel
theorem dX4_takeOrder_55 : decode cX4_takeOrder 55 = .ok (.iconst 0, 1) := by decide +kernel
theorem dX4_takeOrder_56 : decode cX4_takeOrder 56 = .ok (.ireturn, 1) := by decide +kernel
theorem dX4_takeOrder_57 : decode cX4_takeOrder 57 = .ok (.iconst 1, 1) := by decide +kernel
theorem dX4_takeOrder_58 : decode cX4_takeOrder 58 = .ok (.ireturn, 1) := by decide +kernel
set_option maxRecDepth 20000 in
theorem ggX4_takeDays_X4_takeNumber : GoodIn wsX4_takeDays wsX4_takeNumber := goodIn_r _ [5, 6, 7, 8, 9, 10, 11, 12, 4, 13, 14, 15, 16, 17, 18, 19, 20, 21, 22, 23, 24, 25, 26, 27, 90, 91, 92, 93, 94, 95, 96] (by decide +kernel) (by decide +kernel)
set_option maxRecDepth 20000 in
theorem gX4_takeDays_X4_takeNumber : GoodIn wsX4_takeDays (wsV RX4 55 RX4 yX4_takeNumber wsX4_takeNumber) := goodIn_app (goodIn_of _ (by decide +kernel)) ggX4_takeDays_X4_takeNumber
set_option maxRecDepth 20000 in
theorem ggX4_takeDays_X4_step : GoodIn wsX4_takeDays wsX4_step := goodIn_r _ [13, 7, 8, 14, 9, 6, 15, 16, 17, 18, 19, 20, 21, 22, 23, 4, 24, 25, 26, 27, 90, 91, 92, 93, 94, 95, 96] (by decide +kernel) (by decide +kernel)
set_option maxRecDepth 20000 in
theorem gX4_takeDays_X4_step : GoodIn wsX4_takeDays (wsV RX4 28 RX4 yX4_step wsX4_step) := goodIn_app (goodIn_of _ (by decide +kernel)) ggX4_takeDays_X4_step
set_option maxRecDepth 20000 in
theorem ggX4_takeDays_X4_isWord : GoodIn wsX4_takeDays wsX4_isWord := goodIn_r _ [31, 6, 7, 8, 9, 32, 33, 34, 35, 36, 37, 38, 39, 40, 41, 42, 43, 15, 16, 17, 18, 19, 20, 21, 44, 45, 46, 47, 48, 49, 50, 51, 52, 53, 54, 55, 56, 57, 58, 59, 60, 61, 62, 63, 64, 65, 66, 67, 68, 69, 70, 71, 72, 73, 74, 75, 76, 77, 78, 79, 80, 90, 91, 92, 93, 94, 95, 96] (by decide +kernel) (by decide +kernel)
set_option maxRecDepth 20000 in
theorem gX4_takeDays_X4_isWord : GoodIn wsX4_takeDays (wsV RX4 37 RX4 yX4_isWord wsX4_isWord) := goodIn_app (goodIn_of _ (by decide +kernel)) ggX4_takeDays_X4_isWord
set_option maxRecDepth 20000 in
theorem ggX4_takeDays_X7_allow : GoodIn wsX4_takeDays wsX7_allow := goodIn_r _ [85, 86, 87, 88, 89, 97, 98, 99, 100, 101, 102, 103] (by decide +kernel) (by decide +kernel)
set_option maxRecDepth 20000 in
theorem gX4_takeDays_X7_allow : GoodIn wsX4_takeDays (wsV RX4 82 RX7 yX7_allow wsX7_allow) := goodIn_app (goodIn_of _ (by decide +kernel)) ggX4_takeDays_X7_allow
theorem dX4_takeDays_0 : decode cX4_takeDays 0 = .ok (.aload_n 0, 1) := by decide +kernel
theorem dX4_takeDays_1 : decode cX4_takeDays 1 = .ok (.invokevirtual 55, 3) := by decide +kernel
theorem dX4_takeDays_4 : decode cX4_takeDays 4 = .ok (.istore_n 2, 1) := by decide +kernel
theorem dX4_takeDays_5 : decode cX4_takeDays 5 = .ok (.iload_n 2, 1) := by decide +kernel
theorem dX4_takeDays_6 : decode cX4_takeDays 6 = .ok (.iconst (-1), 1) := by decide +kernel
theorem dX4_takeDays_7 : decode cX4_takeDays 7 = .ok (.if_icmp .ne 5, 3) := by decide +kernel
theorem dX4_takeDays_10 : decode cX4_takeDays 10 = .ok (.iconst 0, 1) := by decide +kernel
theorem dX4_takeDays_11 : decode cX4_takeDays 11 = .ok (.ireturn, 1) := by decide +kernel
theorem dX4_takeDays_12 : decode cX4_takeDays 12 = .ok (.aload_n 0, 1) := by decide +kernel
theorem dX4_takeDays_13 : decode cX4_takeDays 13 = .ok (.invokevirtual 28, 3) := by decide +kernel
theorem dX4_takeDays_16 : decode cX4_takeDays 16 = .ok (.aload_n 0, 1) := by decide +kernel
theorem dX4_takeDays_17 : decode cX4_takeDays 17 = .ok (.ldc 80, 2) := by decide +kernel
theorem dX4_takeDays_19 : decode cX4_takeDays 19 = .ok (.invokevirtual 37, 3) := by decide +kernel
theorem dX4_takeDays_22 : decode cX4_takeDays 22 = .ok (.ifCond .ne 5, 3) := by decide +kernel
theorem dX4_takeDays_25 : decode cX4_takeDays 25 = .ok (.iconst 0, 1) := by decide +kernel
theorem dX4_takeDays_26 : decode cX4_takeDays 26 = .ok (.ireturn, 1) := by decide +kernel
theorem dX4_takeDays_27 : decode cX4_takeDays 27 = .ok (.aload_n 0, 1) := by decide +kernel
theorem dX4_takeDays_28 : decode cX4_takeDays 28 = .ok (.invokevirtual 55, 3) := by decide +kernel
theorem dX4_takeDays_31 : decode cX4_takeDays 31 = .ok (.istore_n 3, 1) := by decide +kernel
theorem dX4_takeDays_32 : decode cX4_takeDays 32 = .ok (.iload_n 3, 1) := by decide +kernel
theorem dX4_takeDays_33 : decode cX4_takeDays 33 = .ok (.iconst (-1), 1) := by decide +kernel
theorem dX4_takeDays_34 : decode cX4_takeDays 34 = .ok (.if_icmp .ne 5, 3) := by decide +kernel
theorem dX4_takeDays_37 : decode cX4_takeDays 37 = .ok (.iconst 0, 1) := by decide +kernel
theorem dX4_takeDays_38 : decode cX4_takeDays 38 = .ok (.ireturn, 1) := by decide +kernel
theorem dX4_takeDays_39 : decode cX4_takeDays 39 = .ok (.aload_n 1, 1) := by decide +kernel
theorem dX4_takeDays_40 : decode cX4_takeDays 40 = .ok (.iload_n 2, 1) := by decide +kernel
theorem dX4_takeDays_41 : decode cX4_takeDays 41 = .ok (.iload_n 3, 1) := by decide +kernel
theorem dX4_takeDays_42 : decode cX4_takeDays 42 = .ok (.invokevirtual 82, 3) := by decide +kernel
theorem dX4_takeDays_45 : decode cX4_takeDays 45 = .ok (.iconst 1, 1) := by decide +kernel
theorem dX4_takeDays_46 : decode cX4_takeDays 46 = .ok (.ireturn, 1) := by decide +kernel
set_option maxRecDepth 20000 in
theorem ggX4_takeSemicolon_X4_step : GoodIn wsX4_takeSemicolon wsX4_step := goodIn_r _ [6, 7, 8, 9, 10, 1, 11, 12, 13, 14, 15, 16, 17, 18, 19, 5, 20, 21, 22, 23, 24, 25, 26, 27, 28, 29, 30] (by decide +kernel) (by decide +kernel)
set_option maxRecDepth 20000 in
theorem gX4_takeSemicolon_X4_step : GoodIn wsX4_takeSemicolon (wsV RX4 28 RX4 yX4_step wsX4_step) := goodIn_app (goodIn_of _ (by decide +kernel)) ggX4_takeSemicolon_X4_step
theorem dX4_takeSemicolon_0 : decode cX4_takeSemicolon 0 = .ok (.aload_n 0, 1) := by decide +kernel
theorem dX4_takeSemicolon_1 : decode cX4_takeSemicolon 1 = .ok (.invokevirtual 28, 3) := by decide +kernel
theorem dX4_takeSemicolon_4 : decode cX4_takeSemicolon 4 = .ok (.aload_n 0, 1) := by decide +kernel
theorem dX4_takeSemicolon_5 : decode cX4_takeSemicolon 5 = .ok (.getfield 25, 3) := by decide +kernel
theorem dX4_takeSemicolon_8 : decode cX4_takeSemicolon 8 = .ok (.iconst 3, 1) := by decide +kernel
theorem dX4_takeSemicolon_9 : decode cX4_takeSemicolon 9 = .ok (.if_icmp .ne 7, 3) := by decide +kernel
theorem dX4_takeSemicolon_12 : decode cX4_takeSemicolon 12 = .ok (.iconst 1, 1) := by decide +kernel
theorem dX4_takeSemicolon_13 : decode cX4_takeSemicolon 13 = .ok (.goto 4, 3) := by decide +kernel
theorem dX4_takeSemicolon_16 : decode cX4_takeSemicolon 16 = .ok (.iconst 0, 1) := by decide +kernel
theorem dX4_takeSemicolon_17 : decode cX4_takeSemicolon 17 = .ok (.ireturn, 1) := by decide +kernel
set_option maxRecDepth 20000 in
theorem ggX4_takeNumber_X4_step : GoodIn wsX4_takeNumber wsX4_step := goodIn_r _ [9, 2, 3, 10, 4, 1, 11, 12, 13, 14, 15, 16, 17, 18, 19, 8, 20, 21, 22, 23, 24, 25, 26, 27, 28, 29, 30] (by decide +kernel) (by decide +kernel)
set_option maxRecDepth 20000 in
theorem gX4_takeNumber_X4_step : GoodIn wsX4_takeNumber (wsV RX4 28 RX4 yX4_step wsX4_step) := goodIn_app (goodIn_of _ (by decide +kernel)) ggX4_takeNumber_X4_step
set_option maxRecDepth 20000 in
theorem ggX4_takeNumber_X8_at : GoodIn wsX4_takeNumber wsX8_at := goodIn_r _ [15, 16, 17, 29, 30] (by decide +kernel) (by decide +kernel)
set_option maxRecDepth 20000 in
theorem gX4_takeNumber_X8_at : GoodIn wsX4_takeNumber (wsV RX4 86 RX8 yX8_at wsX8_at) := goodIn_app (goodIn_of _ (by decide +kernel)) ggX4_takeNumber_X8_at
theorem dX4_takeNumber_0 : decode cX4_takeNumber 0 = .ok (.aload_n 0, 1) := by decide +kernel
theorem dX4_takeNumber_1 : decode cX4_takeNumber 1 = .ok (.invokevirtual 28, 3) := by decide +kernel
theorem dX4_takeNumber_4 : decode cX4_takeNumber 4 = .ok (.aload_n 0, 1) := by decide +kernel
theorem dX4_takeNumber_5 : decode cX4_takeNumber 5 = .ok (.getfield 25, 3) := by decide +kernel
theorem dX4_takeNumber_8 : decode cX4_takeNumber 8 = .ok (.iconst 2, 1) := by decide +kernel
theorem dX4_takeNumber_9 : decode cX4_takeNumber 9 = .ok (.if_icmp .ne 16, 3) := by decide +kernel
theorem dX4_takeNumber_12 : decode cX4_takeNumber 12 = .ok (.aload_n 0, 1) := by decide +kernel
theorem dX4_takeNumber_13 : decode cX4_takeNumber 13 = .ok (.getfield 22, 3) := by decide +kernel
theorem dX4_takeNumber_16 : decode cX4_takeNumber 16 = .ok (.aload_n 0, 1) := by decide +kernel
theorem dX4_takeNumber_17 : decode cX4_takeNumber 17 = .ok (.getfield 19, 3) := by decide +kernel
theorem dX4_takeNumber_20 : decode cX4_takeNumber 20 = .ok (.isub, 1) := by decide +kernel
theorem dX4_takeNumber_21 : decode cX4_takeNumber 21 = .ok (.iconst 3, 1) := by decide +kernel
theorem dX4_takeNumber_22 : decode cX4_takeNumber 22 = .ok (.if_icmp .le 5, 3) := by decide +kernel
theorem dX4_takeNumber_25 : decode cX4_takeNumber 25 = .ok (.iconst (-1), 1) := by decide +kernel
theorem dX4_takeNumber_26 : decode cX4_takeNumber 26 = .ok (.ireturn, 1) := by decide +kernel
theorem dX4_takeNumber_27 : decode cX4_takeNumber 27 = .ok (.iconst 0, 1) := by decide +kernel
theorem dX4_takeNumber_28 : decode cX4_takeNumber 28 = .ok (.istore_n 1, 1) := by decide +kernel
theorem dX4_takeNumber_29 : decode cX4_takeNumber 29 = .ok (.aload_n 0, 1) := by decide +kernel
theorem dX4_takeNumber_30 : decode cX4_takeNumber 30 = .ok (.getfield 19, 3) := by decide +kernel
theorem dX4_takeNumber_33 : decode cX4_takeNumber 33 = .ok (.istore_n 2, 1) := by decide +kernel
theorem dX4_takeNumber_34 : decode cX4_takeNumber 34 = .ok (.iload_n 2, 1) := by decide +kernel
theorem dX4_takeNumber_35 : decode cX4_takeNumber 35 = .ok (.aload_n 0, 1) := by decide +kernel
theorem dX4_takeNumber_36 : decode cX4_takeNumber 36 = .ok (.getfield 22, 3) := by decide +kernel
theorem dX4_takeNumber_39 : decode cX4_takeNumber 39 = .ok (.if_icmp .ge 26, 3) := by decide +kernel
theorem dX4_takeNumber_42 : decode cX4_takeNumber 42 = .ok (.iload_n 1, 1) := by decide +kernel
theorem dX4_takeNumber_43 : decode cX4_takeNumber 43 = .ok (.bipush 10, 2) := by decide +kernel
theorem dX4_takeNumber_45 : decode cX4_takeNumber 45 = .ok (.imul, 1) := by decide +kernel
theorem dX4_takeNumber_46 : decode cX4_takeNumber 46 = .ok (.aload_n 0, 1) := by decide +kernel
theorem dX4_takeNumber_47 : decode cX4_takeNumber 47 = .ok (.getfield 9, 3) := by decide +kernel
theorem dX4_takeNumber_50 : decode cX4_takeNumber 50 = .ok (.iload_n 2, 1) := by decide +kernel
theorem dX4_takeNumber_51 : decode cX4_takeNumber 51 = .ok (.invokevirtual 86, 3) := by decide +kernel
theorem dX4_takeNumber_54 : decode cX4_takeNumber 54 = .ok (.iadd, 1) := by decide +kernel
theorem dX4_takeNumber_55 : decode cX4_takeNumber 55 = .ok (.bipush 48, 2) := by decide +kernel
theorem dX4_takeNumber_57 : decode cX4_takeNumber 57 = .ok (.isub, 1) := by decide +kernel
theorem dX4_takeNumber_58 : decode cX4_takeNumber 58 = .ok (.istore_n 1, 1) := by decide +kernel
theorem dX4_takeNumber_59 : decode cX4_takeNumber 59 = .ok (.iinc 2 1, 3) := by decide +kernel
theorem dX4_takeNumber_62 : decode cX4_takeNumber 62 = .ok (.goto (-28), 3) := by decide +kernel
theorem dX4_takeNumber_65 : decode cX4_takeNumber 65 = .ok (.iload_n 1, 1) := by decide +kernel
theorem dX4_takeNumber_66 : decode cX4_takeNumber 66 = .ok (.ireturn, 1) := by decide +kernel
set_option maxRecDepth 20000 in
theorem ggX4_step_X8_at : GoodIn wsX4_step wsX8_at := goodIn_r _ [10, 11, 12, 25, 26] (by decide +kernel) (by decide +kernel)
set_option maxRecDepth 20000 in
theorem gX4_step_X8_at : GoodIn wsX4_step (wsV RX4 86 RX8 yX8_at wsX8_at) := goodIn_app (goodIn_of _ (by decide +kernel)) ggX4_step_X8_at
set_option maxRecDepth 20000 in
theorem ggX4_step_X4_isBlank : GoodIn wsX4_step wsX4_isBlank := goodIn_r _ [16] (by decide +kernel) (by decide +kernel)
set_option maxRecDepth 20000 in
theorem gX4_step_X4_isBlank : GoodIn wsX4_step (va_wsS RX4 92 yX4_isBlank wsX4_isBlank) := goodIn_app (goodIn_of _ (by decide +kernel)) ggX4_step_X4_isBlank
set_option maxRecDepth 20000 in
theorem ggX4_step_X4_kindOf : GoodIn wsX4_step wsX4_kindOf := goodIn_r _ [19] (by decide +kernel) (by decide +kernel)
set_option maxRecDepth 20000 in
theorem gX4_step_X4_kindOf : GoodIn wsX4_step (va_wsS RX4 96 yX4_kindOf wsX4_kindOf) := goodIn_app (goodIn_of _ (by decide +kernel)) ggX4_step_X4_kindOf
theorem dX4_step_0 : decode cX4_step 0 = .ok (.aload_n 0, 1) := by decide +kernel
theorem dX4_step_1 : decode cX4_step 1 = .ok (.aload_n 0, 1) := by decide +kernel
theorem dX4_step_2 : decode cX4_step 2 = .ok (.getfield 22, 3) := by decide +kernel
theorem dX4_step_5 : decode cX4_step 5 = .ok (.putfield 19, 3) := by decide +kernel
theorem dX4_step_8 : decode cX4_step 8 = .ok (.aload_n 0, 1) := by decide +kernel
theorem dX4_step_9 : decode cX4_step 9 = .ok (.getfield 19, 3) := by decide +kernel
theorem dX4_step_12 : decode cX4_step 12 = .ok (.aload_n 0, 1) := by decide +kernel
theorem dX4_step_13 : decode cX4_step 13 = .ok (.getfield 15, 3) := by decide +kernel
theorem dX4_step_16 : decode cX4_step 16 = .ok (.if_icmp .ge 33, 3) := by decide +kernel
theorem dX4_step_19 : decode cX4_step 19 = .ok (.aload_n 0, 1) := by decide +kernel
theorem dX4_step_20 : decode cX4_step 20 = .ok (.getfield 9, 3) := by decide +kernel
theorem dX4_step_23 : decode cX4_step 23 = .ok (.aload_n 0, 1) := by decide +kernel
theorem dX4_step_24 : decode cX4_step 24 = .ok (.getfield 19, 3) := by decide +kernel
theorem dX4_step_27 : decode cX4_step 27 = .ok (.invokevirtual 86, 3) := by decide +kernel
theorem dX4_step_30 : decode cX4_step 30 = .ok (.invokestatic 92, 3) := by decide +kernel
theorem dX4_step_33 : decode cX4_step 33 = .ok (.ifCond .eq 16, 3) := by decide +kernel
theorem dX4_step_36 : decode cX4_step 36 = .ok (.aload_n 0, 1) := by decide +kernel
theorem dX4_step_37 : decode cX4_step 37 = .ok (.dup, 1) := by decide +kernel
theorem dX4_step_38 : decode cX4_step 38 = .ok (.getfield 19, 3) := by decide +kernel
theorem dX4_step_41 : decode cX4_step 41 = .ok (.iconst 1, 1) := by decide +kernel
theorem dX4_step_42 : decode cX4_step 42 = .ok (.iadd, 1) := by decide +kernel
theorem dX4_step_43 : decode cX4_step 43 = .ok (.putfield 19, 3) := by decide +kernel
theorem dX4_step_46 : decode cX4_step 46 = .ok (.goto (-38), 3) := by decide +kernel
theorem dX4_step_49 : decode cX4_step 49 = .ok (.aload_n 0, 1) := by decide +kernel
theorem dX4_step_50 : decode cX4_step 50 = .ok (.aload_n 0, 1) := by decide +kernel
theorem dX4_step_51 : decode cX4_step 51 = .ok (.getfield 19, 3) := by decide +kernel
theorem dX4_step_54 : decode cX4_step 54 = .ok (.putfield 22, 3) := by decide +kernel
theorem dX4_step_57 : decode cX4_step 57 = .ok (.aload_n 0, 1) := by decide +kernel
theorem dX4_step_58 : decode cX4_step 58 = .ok (.getfield 19, 3) := by decide +kernel
theorem dX4_step_61 : decode cX4_step 61 = .ok (.aload_n 0, 1) := by decide +kernel
theorem dX4_step_62 : decode cX4_step 62 = .ok (.getfield 15, 3) := by decide +kernel
theorem dX4_step_65 : decode cX4_step 65 = .ok (.if_icmp .lt 9, 3) := by decide +kernel
theorem dX4_step_68 : decode cX4_step 68 = .ok (.aload_n 0, 1) := by decide +kernel
theorem dX4_step_69 : decode cX4_step 69 = .ok (.iconst 0, 1) := by decide +kernel
theorem dX4_step_70 : decode cX4_step 70 = .ok (.putfield 25, 3) := by decide +kernel
theorem dX4_step_73 : decode cX4_step 73 = .ok (.return_, 1) := by decide +kernel
theorem dX4_step_74 : decode cX4_step 74 = .ok (.aload_n 0, 1) := by decide +kernel
theorem dX4_step_75 : decode cX4_step 75 = .ok (.aload_n 0, 1) := by decide +kernel
theorem dX4_step_76 : decode cX4_step 76 = .ok (.getfield 9, 3) := by decide +kernel
theorem dX4_step_79 : decode cX4_step 79 = .ok (.aload_n 0, 1) := by decide +kernel
theorem dX4_step_80 : decode cX4_step 80 = .ok (.getfield 19, 3) := by decide +kernel
theorem dX4_step_83 : decode cX4_step 83 = .ok (.invokevirtual 86, 3) := by decide +kernel
theorem dX4_step_86 : decode cX4_step 86 = .ok (.invokestatic 96, 3) := by decide +kernel
theorem dX4_step_89 : decode cX4_step 89 = .ok (.putfield 25, 3) := by decide +kernel
theorem dX4_step_92 : decode cX4_step 92 = .ok (.aload_n 0, 1) := by decide +kernel
theorem dX4_step_93 : decode cX4_step 93 = .ok (.dup, 1) := by decide +kernel
theorem dX4_step_94 : decode cX4_step 94 = .ok (.getfield 22, 3) := by decide +kernel
theorem dX4_step_97 : decode cX4_step 97 = .ok (.iconst 1, 1) := by decide +kernel
theorem dX4_step_98 : decode cX4_step 98 = .ok (.iadd, 1) := by decide +kernel
theorem dX4_step_99 : decode cX4_step 99 = .ok (.putfield 22, 3) := by decide +kernel
theorem dX4_step_102 : decode cX4_step 102 = .ok (.aload_n 0, 1) := by decide +kernel
theorem dX4_step_103 : decode cX4_step 103 = .ok (.getfield 25, 3) := by decide +kernel
theorem dX4_step_106 : decode cX4_step 106 = .ok (.iconst 1, 1) := by decide +kernel
theorem dX4_step_107 : decode cX4_step 107 = .ok (.if_icmp .eq 11, 3) := by decide +kernel
theorem dX4_step_110 : decode cX4_step 110 = .ok (.aload_n 0, 1) := by decide +kernel
theorem dX4_step_111 : decode cX4_step 111 = .ok (.getfield 25, 3) := by decide +kernel
theorem dX4_step_114 : decode cX4_step 114 = .ok (.iconst 2, 1) := by decide +kernel
theorem dX4_step_115 : decode cX4_step 115 = .ok (.if_icmp .ne 48, 3) := by decide +kernel
theorem dX4_step_118 : decode cX4_step 118 = .ok (.aload_n 0, 1) := by decide +kernel
theorem dX4_step_119 : decode cX4_step 119 = .ok (.getfield 22, 3) := by decide +kernel
theorem dX4_step_122 : decode cX4_step 122 = .ok (.aload_n 0, 1) := by decide +kernel
theorem dX4_step_123 : decode cX4_step 123 = .ok (.getfield 15, 3) := by decide +kernel
theorem dX4_step_126 : decode cX4_step 126 = .ok (.if_icmp .ge 37, 3) := by decide +kernel
theorem dX4_step_129 : decode cX4_step 129 = .ok (.aload_n 0, 1) := by decide +kernel
theorem dX4_step_130 : decode cX4_step 130 = .ok (.getfield 9, 3) := by decide +kernel
theorem dX4_step_133 : decode cX4_step 133 = .ok (.aload_n 0, 1) := by decide +kernel
theorem dX4_step_134 : decode cX4_step 134 = .ok (.getfield 22, 3) := by decide +kernel
theorem dX4_step_137 : decode cX4_step 137 = .ok (.invokevirtual 86, 3) := by decide +kernel
theorem dX4_step_140 : decode cX4_step 140 = .ok (.invokestatic 96, 3) := by decide +kernel
theorem dX4_step_143 : decode cX4_step 143 = .ok (.aload_n 0, 1) := by decide +kernel
theorem dX4_step_144 : decode cX4_step 144 = .ok (.getfield 25, 3) := by decide +kernel
theorem dX4_step_147 : decode cX4_step 147 = .ok (.if_icmp .ne 16, 3) := by decide +kernel
theorem dX4_step_150 : decode cX4_step 150 = .ok (.aload_n 0, 1) := by decide +kernel
theorem dX4_step_151 : decode cX4_step 151 = .ok (.dup, 1) := by decide +kernel
theorem dX4_step_152 : decode cX4_step 152 = .ok (.getfield 22, 3) := by decide +kernel
theorem dX4_step_155 : decode cX4_step 155 = .ok (.iconst 1, 1) := by decide +kernel
theorem dX4_step_156 : decode cX4_step 156 = .ok (.iadd, 1) := by decide +kernel
theorem dX4_step_157 : decode cX4_step 157 = .ok (.putfield 22, 3) := by decide +kernel
theorem dX4_step_160 : decode cX4_step 160 = .ok (.goto (-42), 3) := by decide +kernel
theorem dX4_step_163 : decode cX4_step 163 = .ok (.return_, 1) := by decide +kernel
set_option maxRecDepth 20000 in
theorem ggX4_isWord_J0_length_8abf5 : GoodIn wsX4_isWord wsJ0_length_8abf5 := goodIn_r _ [9, 10, 11, 12, 13, 8, 14, 15, 16] (by decide +kernel) (by decide +kernel)
set_option maxRecDepth 20000 in
theorem gX4_isWord_J0_length_8abf5 : GoodIn wsX4_isWord (wsV RX4 99 RJ0 yJ0_length_8abf5 wsJ0_length_8abf5) := goodIn_app (goodIn_of _ (by decide +kernel)) ggX4_isWord_J0_length_8abf5
set_option maxRecDepth 20000 in
theorem ggX4_isWord_X8_at : GoodIn wsX4_isWord wsX8_at := goodIn_r _ [21, 22, 23, 66, 67] (by decide +kernel) (by decide +kernel)
set_option maxRecDepth 20000 in
theorem gX4_isWord_X8_at : GoodIn wsX4_isWord (wsV RX4 86 RX8 yX8_at wsX8_at) := goodIn_app (goodIn_of _ (by decide +kernel)) ggX4_isWord_X8_at
set_option maxRecDepth 20000 in
theorem ggX4_isWord_J0_charAt_5068e : GoodIn wsX4_isWord wsJ0_charAt_5068e := goodIn_r _ [27, 10, 28, 29, 30, 8, 31, 15, 16, 32, 33, 34, 35, 36, 37, 38, 39, 40, 41, 42, 43, 44, 45, 46, 47, 48, 49, 50, 51, 52, 53, 54, 55, 56, 57, 58, 59, 60] (by decide +kernel) (by decide +kernel)
set_option maxRecDepth 20000 in
theorem gX4_isWord_J0_charAt_5068e : GoodIn wsX4_isWord (wsV RX4 103 RJ0 yJ0_charAt_5068e wsJ0_charAt_5068e) := goodIn_app (goodIn_of _ (by decide +kernel)) ggX4_isWord_J0_charAt_5068e
theorem dX4_isWord_0 : decode cX4_isWord 0 = .ok (.aload_n 0, 1) := by decide +kernel
theorem dX4_isWord_1 : decode cX4_isWord 1 = .ok (.getfield 25, 3) := by decide +kernel
theorem dX4_isWord_4 : decode cX4_isWord 4 = .ok (.iconst 1, 1) := by decide +kernel
theorem dX4_isWord_5 : decode cX4_isWord 5 = .ok (.if_icmp .ne 19, 3) := by decide +kernel
theorem dX4_isWord_8 : decode cX4_isWord 8 = .ok (.aload_n 0, 1) := by decide +kernel
theorem dX4_isWord_9 : decode cX4_isWord 9 = .ok (.getfield 22, 3) := by decide +kernel
theorem dX4_isWord_12 : decode cX4_isWord 12 = .ok (.aload_n 0, 1) := by decide +kernel
theorem dX4_isWord_13 : decode cX4_isWord 13 = .ok (.getfield 19, 3) := by decide +kernel
theorem dX4_isWord_16 : decode cX4_isWord 16 = .ok (.isub, 1) := by decide +kernel
theorem dX4_isWord_17 : decode cX4_isWord 17 = .ok (.aload_n 1, 1) := by decide +kernel
theorem dX4_isWord_18 : decode cX4_isWord 18 = .ok (.invokevirtual 99, 3) := by decide +kernel
theorem dX4_isWord_21 : decode cX4_isWord 21 = .ok (.if_icmp .eq 5, 3) := by decide +kernel
theorem dX4_isWord_24 : decode cX4_isWord 24 = .ok (.iconst 0, 1) := by decide +kernel
theorem dX4_isWord_25 : decode cX4_isWord 25 = .ok (.ireturn, 1) := by decide +kernel
theorem dX4_isWord_26 : decode cX4_isWord 26 = .ok (.iconst 0, 1) := by decide +kernel
theorem dX4_isWord_27 : decode cX4_isWord 27 = .ok (.istore_n 2, 1) := by decide +kernel
theorem dX4_isWord_28 : decode cX4_isWord 28 = .ok (.iload_n 2, 1) := by decide +kernel
theorem dX4_isWord_29 : decode cX4_isWord 29 = .ok (.aload_n 1, 1) := by decide +kernel
theorem dX4_isWord_30 : decode cX4_isWord 30 = .ok (.invokevirtual 99, 3) := by decide +kernel
theorem dX4_isWord_33 : decode cX4_isWord 33 = .ok (.if_icmp .ge 32, 3) := by decide +kernel
theorem dX4_isWord_36 : decode cX4_isWord 36 = .ok (.aload_n 0, 1) := by decide +kernel
theorem dX4_isWord_37 : decode cX4_isWord 37 = .ok (.getfield 9, 3) := by decide +kernel
theorem dX4_isWord_40 : decode cX4_isWord 40 = .ok (.aload_n 0, 1) := by decide +kernel
theorem dX4_isWord_41 : decode cX4_isWord 41 = .ok (.getfield 19, 3) := by decide +kernel
theorem dX4_isWord_44 : decode cX4_isWord 44 = .ok (.iload_n 2, 1) := by decide +kernel
theorem dX4_isWord_45 : decode cX4_isWord 45 = .ok (.iadd, 1) := by decide +kernel
theorem dX4_isWord_46 : decode cX4_isWord 46 = .ok (.invokevirtual 86, 3) := by decide +kernel
theorem dX4_isWord_49 : decode cX4_isWord 49 = .ok (.aload_n 1, 1) := by decide +kernel
theorem dX4_isWord_50 : decode cX4_isWord 50 = .ok (.iload_n 2, 1) := by decide +kernel
theorem dX4_isWord_51 : decode cX4_isWord 51 = .ok (.invokevirtual 103, 3) := by decide +kernel
theorem dX4_isWord_54 : decode cX4_isWord 54 = .ok (.if_icmp .eq 5, 3) := by decide +kernel
theorem dX4_isWord_57 : decode cX4_isWord 57 = .ok (.iconst 0, 1) := by decide +kernel
theorem dX4_isWord_58 : decode cX4_isWord 58 = .ok (.ireturn, 1) := by decide +kernel
theorem dX4_isWord_59 : decode cX4_isWord 59 = .ok (.iinc 2 1, 3) := by decide +kernel
theorem dX4_isWord_62 : decode cX4_isWord 62 = .ok (.goto (-34), 3) := by decide +kernel
theorem dX4_isWord_65 : decode cX4_isWord 65 = .ok (.iconst 1, 1) := by decide +kernel
theorem dX4_isWord_66 : decode cX4_isWord 66 = .ok (.ireturn, 1) := by decide +kernel
theorem dX4_isBlank_0 : decode cX4_isBlank 0 = .ok (.iload_n 0, 1) := by decide +kernel
theorem dX4_isBlank_1 : decode cX4_isBlank 1 = .ok (.bipush 32, 2) := by decide +kernel
theorem dX4_isBlank_3 : decode cX4_isBlank 3 = .ok (.if_icmp .eq 9, 3) := by decide +kernel
theorem dX4_isBlank_6 : decode cX4_isBlank 6 = .ok (.iload_n 0, 1) := by decide +kernel
theorem dX4_isBlank_7 : decode cX4_isBlank 7 = .ok (.bipush 10, 2) := by decide +kernel
theorem dX4_isBlank_9 : decode cX4_isBlank 9 = .ok (.if_icmp .ne 7, 3) := by decide +kernel
theorem dX4_isBlank_12 : decode cX4_isBlank 12 = .ok (.iconst 1, 1) := by decide +kernel
theorem dX4_isBlank_13 : decode cX4_isBlank 13 = .ok (.goto 4, 3) := by decide +kernel
theorem dX4_isBlank_16 : decode cX4_isBlank 16 = .ok (.iconst 0, 1) := by decide +kernel
theorem dX4_isBlank_17 : decode cX4_isBlank 17 = .ok (.ireturn, 1) := by decide +kernel
theorem dX4_kindOf_0 : decode cX4_kindOf 0 = .ok (.iload_n 0, 1) := by decide +kernel
theorem dX4_kindOf_1 : decode cX4_kindOf 1 = .ok (.bipush 97, 2) := by decide +kernel
theorem dX4_kindOf_3 : decode cX4_kindOf 3 = .ok (.if_icmp .lt 11, 3) := by decide +kernel
theorem dX4_kindOf_6 : decode cX4_kindOf 6 = .ok (.iload_n 0, 1) := by decide +kernel
theorem dX4_kindOf_7 : decode cX4_kindOf 7 = .ok (.bipush 122, 2) := by decide +kernel
theorem dX4_kindOf_9 : decode cX4_kindOf 9 = .ok (.if_icmp .gt 5, 3) := by decide +kernel
theorem dX4_kindOf_12 : decode cX4_kindOf 12 = .ok (.iconst 1, 1) := by decide +kernel
theorem dX4_kindOf_13 : decode cX4_kindOf 13 = .ok (.ireturn, 1) := by decide +kernel
theorem dX4_kindOf_14 : decode cX4_kindOf 14 = .ok (.iload_n 0, 1) := by decide +kernel
theorem dX4_kindOf_15 : decode cX4_kindOf 15 = .ok (.bipush 48, 2) := by decide +kernel
theorem dX4_kindOf_17 : decode cX4_kindOf 17 = .ok (.if_icmp .lt 11, 3) := by decide +kernel
theorem dX4_kindOf_20 : decode cX4_kindOf 20 = .ok (.iload_n 0, 1) := by decide +kernel
theorem dX4_kindOf_21 : decode cX4_kindOf 21 = .ok (.bipush 57, 2) := by decide +kernel
theorem dX4_kindOf_23 : decode cX4_kindOf 23 = .ok (.if_icmp .gt 5, 3) := by decide +kernel
theorem dX4_kindOf_26 : decode cX4_kindOf 26 = .ok (.iconst 2, 1) := by decide +kernel
theorem dX4_kindOf_27 : decode cX4_kindOf 27 = .ok (.ireturn, 1) := by decide +kernel
theorem dX4_kindOf_28 : decode cX4_kindOf 28 = .ok (.iload_n 0, 1) := by decide +kernel
theorem dX4_kindOf_29 : decode cX4_kindOf 29 = .ok (.bipush 59, 2) := by decide +kernel
theorem dX4_kindOf_31 : decode cX4_kindOf 31 = .ok (.if_icmp .ne 7, 3) := by decide +kernel
theorem dX4_kindOf_34 : decode cX4_kindOf 34 = .ok (.iconst 3, 1) := by decide +kernel
theorem dX4_kindOf_35 : decode cX4_kindOf 35 = .ok (.goto 4, 3) := by decide +kernel
theorem dX4_kindOf_38 : decode cX4_kindOf 38 = .ok (.iconst 4, 1) := by decide +kernel
theorem dX4_kindOf_39 : decode cX4_kindOf 39 = .ok (.ireturn, 1) := by decide +kernel
theorem dX5_init_0 : decode cX5_init 0 = .ok (.aload_n 0, 1) := by decide +kernel
theorem dX5_init_1 : decode cX5_init 1 = .ok (.invokespecial 3, 3) := by decide +kernel
theorem dX5_init_4 : decode cX5_init 4 = .ok (.aload_n 0, 1) := by decide +kernel
theorem dX5_init_5 : decode cX5_init 5 = .ok (.bipush 6, 2) := by decide +kernel
theorem dX5_init_7 : decode cX5_init 7 = .ok (.newarray .int, 2) := by decide +kernel
theorem dX5_init_9 : decode cX5_init 9 = .ok (.putfield 11, 3) := by decide +kernel
theorem dX5_init_12 : decode cX5_init 12 = .ok (.aload_n 0, 1) := by decide +kernel
theorem dX5_init_13 : decode cX5_init 13 = .ok (.bipush 6, 2) := by decide +kernel
theorem dX5_init_15 : decode cX5_init 15 = .ok (.newarray .int, 2) := by decide +kernel
theorem dX5_init_17 : decode cX5_init 17 = .ok (.putfield 15, 3) := by decide +kernel
theorem dX5_init_20 : decode cX5_init 20 = .ok (.aload_n 0, 1) := by decide +kernel
theorem dX5_init_21 : decode cX5_init 21 = .ok (.bipush 6, 2) := by decide +kernel
theorem dX5_init_23 : decode cX5_init 23 = .ok (.newarray .int, 2) := by decide +kernel
theorem dX5_init_25 : decode cX5_init 25 = .ok (.putfield 18, 3) := by decide +kernel
theorem dX5_init_28 : decode cX5_init 28 = .ok (.aload_n 0, 1) := by decide +kernel
theorem dX5_init_29 : decode cX5_init 29 = .ok (.bipush 64, 2) := by decide +kernel
theorem dX5_init_31 : decode cX5_init 31 = .ok (.newarray .int, 2) := by decide +kernel
theorem dX5_init_33 : decode cX5_init 33 = .ok (.putfield 21, 3) := by decide +kernel
theorem dX5_init_36 : decode cX5_init 36 = .ok (.aload_n 0, 1) := by decide +kernel
theorem dX5_init_37 : decode cX5_init 37 = .ok (.iconst 0, 1) := by decide +kernel
theorem dX5_init_38 : decode cX5_init 38 = .ok (.putfield 24, 3) := by decide +kernel
theorem dX5_init_41 : decode cX5_init 41 = .ok (.aload_n 0, 1) := by decide +kernel
theorem dX5_init_42 : decode cX5_init 42 = .ok (.iconst 0, 1) := by decide +kernel
theorem dX5_init_43 : decode cX5_init 43 = .ok (.putfield 28, 3) := by decide +kernel
theorem dX5_init_46 : decode cX5_init 46 = .ok (.return_, 1) := by decide +kernel
theorem dX5_clear_0 : decode cX5_clear 0 = .ok (.aload_n 0, 1) := by decide +kernel
theorem dX5_clear_1 : decode cX5_clear 1 = .ok (.iconst 0, 1) := by decide +kernel
theorem dX5_clear_2 : decode cX5_clear 2 = .ok (.putfield 24, 3) := by decide +kernel
theorem dX5_clear_5 : decode cX5_clear 5 = .ok (.return_, 1) := by decide +kernel
theorem dX5_add_0 : decode cX5_add 0 = .ok (.aload_n 0, 1) := by decide +kernel
theorem dX5_add_1 : decode cX5_add 1 = .ok (.getfield 24, 3) := by decide +kernel
theorem dX5_add_4 : decode cX5_add 4 = .ok (.bipush 6, 2) := by decide +kernel
theorem dX5_add_6 : decode cX5_add 6 = .ok (.if_icmp .ge 43, 3) := by decide +kernel
theorem dX5_add_9 : decode cX5_add 9 = .ok (.aload_n 0, 1) := by decide +kernel
theorem dX5_add_10 : decode cX5_add 10 = .ok (.getfield 11, 3) := by decide +kernel
theorem dX5_add_13 : decode cX5_add 13 = .ok (.aload_n 0, 1) := by decide +kernel
theorem dX5_add_14 : decode cX5_add 14 = .ok (.getfield 24, 3) := by decide +kernel
theorem dX5_add_17 : decode cX5_add 17 = .ok (.iload_n 1, 1) := by decide +kernel
theorem dX5_add_18 : decode cX5_add 18 = .ok (.iastore, 1) := by decide +kernel
theorem dX5_add_19 : decode cX5_add 19 = .ok (.aload_n 0, 1) := by decide +kernel
theorem dX5_add_20 : decode cX5_add 20 = .ok (.getfield 15, 3) := by decide +kernel
theorem dX5_add_23 : decode cX5_add 23 = .ok (.aload_n 0, 1) := by decide +kernel
theorem dX5_add_24 : decode cX5_add 24 = .ok (.getfield 24, 3) := by decide +kernel
theorem dX5_add_27 : decode cX5_add 27 = .ok (.iload_n 2, 1) := by decide +kernel
theorem dX5_add_28 : decode cX5_add 28 = .ok (.iastore, 1) := by decide +kernel
theorem dX5_add_29 : decode cX5_add 29 = .ok (.aload_n 0, 1) := by decide +kernel
theorem dX5_add_30 : decode cX5_add 30 = .ok (.getfield 18, 3) := by decide +kernel
theorem dX5_add_33 : decode cX5_add 33 = .ok (.aload_n 0, 1) := by decide +kernel
theorem dX5_add_34 : decode cX5_add 34 = .ok (.getfield 24, 3) := by decide +kernel
theorem dX5_add_37 : decode cX5_add 37 = .ok (.iload_n 3, 1) := by decide +kernel
theorem dX5_add_38 : decode cX5_add 38 = .ok (.iastore, 1) := by decide +kernel
theorem dX5_add_39 : decode cX5_add 39 = .ok (.aload_n 0, 1) := by decide +kernel
theorem dX5_add_40 : decode cX5_add 40 = .ok (.dup, 1) := by decide +kernel
theorem dX5_add_41 : decode cX5_add 41 = .ok (.getfield 24, 3) := by decide +kernel
theorem dX5_add_44 : decode cX5_add 44 = .ok (.iconst 1, 1) := by decide +kernel
theorem dX5_add_45 : decode cX5_add 45 = .ok (.iadd, 1) := by decide +kernel
theorem dX5_add_46 : decode cX5_add 46 = .ok (.putfield 24, 3) := by decide +kernel
theorem dX5_add_49 : decode cX5_add 49 = .ok (.return_, 1) := by decide +kernel
set_option maxRecDepth 20000 in
theorem ggX5_weigh_X5_bestNext : GoodIn wsX5_weigh wsX5_bestNext := goodIn_r _ [8, 2, 9, 10, 11, 7, 12, 3, 13, 14, 15, 16, 17, 18, 19, 20, 21, 22, 23, 24, 1, 25, 26, 27, 28, 29, 30, 31] (by decide +kernel) (by decide +kernel)
set_option maxRecDepth 20000 in
theorem gX5_weigh_X5_bestNext : GoodIn wsX5_weigh (wsV RX5 31 RX5 yX5_bestNext wsX5_bestNext) := goodIn_app (goodIn_of _ (by decide +kernel)) ggX5_weigh_X5_bestNext
set_option maxRecDepth 20000 in
theorem ggX5_weigh_X5_restWith : GoodIn wsX5_weigh wsX5_restWith := goodIn_r _ [12, 2, 3, 13, 14, 15, 16, 17, 18, 19, 20, 21, 22, 23, 7, 24, 1, 25, 26, 27, 28, 29, 30, 31] (by decide +kernel) (by decide +kernel)
set_option maxRecDepth 20000 in
theorem gX5_weigh_X5_restWith : GoodIn wsX5_weigh (wsV RX5 35 RX5 yX5_restWith wsX5_restWith) := goodIn_app (goodIn_of _ (by decide +kernel)) ggX5_weigh_X5_restWith
theorem dX5_weigh_0 : decode cX5_weigh 0 = .ok (.aload_n 0, 1) := by decide +kernel
theorem dX5_weigh_1 : decode cX5_weigh 1 = .ok (.iload_n 1, 1) := by decide +kernel
theorem dX5_weigh_2 : decode cX5_weigh 2 = .ok (.putfield 28, 3) := by decide +kernel
theorem dX5_weigh_5 : decode cX5_weigh 5 = .ok (.iconst 1, 1) := by decide +kernel
theorem dX5_weigh_6 : decode cX5_weigh 6 = .ok (.aload_n 0, 1) := by decide +kernel
theorem dX5_weigh_7 : decode cX5_weigh 7 = .ok (.getfield 24, 3) := by decide +kernel
theorem dX5_weigh_10 : decode cX5_weigh 10 = .ok (.ishl, 1) := by decide +kernel
theorem dX5_weigh_11 : decode cX5_weigh 11 = .ok (.iconst 1, 1) := by decide +kernel
theorem dX5_weigh_12 : decode cX5_weigh 12 = .ok (.isub, 1) := by decide +kernel
theorem dX5_weigh_13 : decode cX5_weigh 13 = .ok (.istore_n 2, 1) := by decide +kernel
theorem dX5_weigh_14 : decode cX5_weigh 14 = .ok (.iload_n 2, 1) := by decide +kernel
theorem dX5_weigh_15 : decode cX5_weigh 15 = .ok (.istore_n 3, 1) := by decide +kernel
theorem dX5_weigh_16 : decode cX5_weigh 16 = .ok (.iload_n 3, 1) := by decide +kernel
theorem dX5_weigh_17 : decode cX5_weigh 17 = .ok (.ifCond .lt 39, 3) := by decide +kernel
theorem dX5_weigh_20 : decode cX5_weigh 20 = .ok (.aload_n 0, 1) := by decide +kernel
theorem dX5_weigh_21 : decode cX5_weigh 21 = .ok (.iload_n 3, 1) := by decide +kernel
theorem dX5_weigh_22 : decode cX5_weigh 22 = .ok (.invokevirtual 31, 3) := by decide +kernel
theorem dX5_weigh_25 : decode cX5_weigh 25 = .ok (.istore 4, 2) := by decide +kernel
theorem dX5_weigh_27 : decode cX5_weigh 27 = .ok (.aload_n 0, 1) := by decide +kernel
theorem dX5_weigh_28 : decode cX5_weigh 28 = .ok (.getfield 21, 3) := by decide +kernel
theorem dX5_weigh_31 : decode cX5_weigh 31 = .ok (.iload_n 3, 1) := by decide +kernel
theorem dX5_weigh_32 : decode cX5_weigh 32 = .ok (.iload 4, 2) := by decide +kernel
theorem dX5_weigh_34 : decode cX5_weigh 34 = .ok (.iconst (-1), 1) := by decide +kernel
theorem dX5_weigh_35 : decode cX5_weigh 35 = .ok (.if_icmp .ne 7, 3) := by decide +kernel
theorem dX5_weigh_38 : decode cX5_weigh 38 = .ok (.iconst 0, 1) := by decide +kernel
theorem dX5_weigh_39 : decode cX5_weigh 39 = .ok (.goto 10, 3) := by decide +kernel
theorem dX5_weigh_42 : decode cX5_weigh 42 = .ok (.aload_n 0, 1) := by decide +kernel
theorem dX5_weigh_43 : decode cX5_weigh 43 = .ok (.iload_n 3, 1) := by decide +kernel
theorem dX5_weigh_44 : decode cX5_weigh 44 = .ok (.iload 4, 2) := by decide +kernel
theorem dX5_weigh_46 : decode cX5_weigh 46 = .ok (.invokevirtual 35, 3) := by decide +kernel
theorem dX5_weigh_49 : decode cX5_weigh 49 = .ok (.iastore, 1) := by decide +kernel
theorem dX5_weigh_50 : decode cX5_weigh 50 = .ok (.iinc 3 (-1), 3) := by decide +kernel
theorem dX5_weigh_53 : decode cX5_weigh 53 = .ok (.goto (-37), 3) := by decide +kernel
theorem dX5_weigh_56 : decode cX5_weigh 56 = .ok (.return_, 1) := by decide +kernel
theorem dX5_leastSum_0 : decode cX5_leastSum 0 = .ok (.aload_n 0, 1) := by decide +kernel
theorem dX5_leastSum_1 : decode cX5_leastSum 1 = .ok (.getfield 21, 3) := by decide +kernel
theorem dX5_leastSum_4 : decode cX5_leastSum 4 = .ok (.iconst 0, 1) := by decide +kernel
theorem dX5_leastSum_5 : decode cX5_leastSum 5 = .ok (.iaload, 1) := by decide +kernel
theorem dX5_leastSum_6 : decode cX5_leastSum 6 = .ok (.ireturn, 1) := by decide +kernel
set_option maxRecDepth 20000 in
theorem ggX5_inPlace_X9_isPlace : GoodIn wsX5_inPlace wsX9_isPlace := goodIn_r _ [5] (by decide +kernel) (by decide +kernel)
set_option maxRecDepth 20000 in
theorem gX5_inPlace_X9_isPlace_n39 : GoodIn wsX5_inPlace (wsX9_isPlace) := ggX5_inPlace_X9_isPlace
set_option maxRecDepth 20000 in
theorem ggX5_inPlace_X5_bestNext : GoodIn wsX5_inPlace wsX5_bestNext := goodIn_r _ [10, 1, 11, 12, 13, 9, 14, 15, 16, 17, 18, 19, 20, 3, 4, 5, 21, 22, 23, 24, 25, 26, 27, 28, 29, 30, 31, 32] (by decide +kernel) (by decide +kernel)
set_option maxRecDepth 20000 in
theorem gX5_inPlace_X5_bestNext : GoodIn wsX5_inPlace (wsV RX5 31 RX5 yX5_bestNext wsX5_bestNext) := goodIn_app (goodIn_of _ (by decide +kernel)) ggX5_inPlace_X5_bestNext
theorem dX5_inPlace_0 : decode cX5_inPlace 0 = .ok (.iload_n 1, 1) := by decide +kernel
theorem dX5_inPlace_1 : decode cX5_inPlace 1 = .ok (.aload_n 0, 1) := by decide +kernel
theorem dX5_inPlace_2 : decode cX5_inPlace 2 = .ok (.getfield 24, 3) := by decide +kernel
theorem dX5_inPlace_5 : decode cX5_inPlace 5 = .ok (.invokestatic 39, 3) := by decide +kernel
theorem dX5_inPlace_8 : decode cX5_inPlace 8 = .ok (.ifCond .ne 5, 3) := by decide +kernel
theorem dX5_inPlace_11 : decode cX5_inPlace 11 = .ok (.iconst (-1), 1) := by decide +kernel
theorem dX5_inPlace_12 : decode cX5_inPlace 12 = .ok (.ireturn, 1) := by decide +kernel
theorem dX5_inPlace_13 : decode cX5_inPlace 13 = .ok (.iconst 0, 1) := by decide +kernel
theorem dX5_inPlace_14 : decode cX5_inPlace 14 = .ok (.istore_n 2, 1) := by decide +kernel
theorem dX5_inPlace_15 : decode cX5_inPlace 15 = .ok (.aload_n 0, 1) := by decide +kernel
theorem dX5_inPlace_16 : decode cX5_inPlace 16 = .ok (.iload_n 2, 1) := by decide +kernel
theorem dX5_inPlace_17 : decode cX5_inPlace 17 = .ok (.invokevirtual 31, 3) := by decide +kernel
theorem dX5_inPlace_20 : decode cX5_inPlace 20 = .ok (.istore_n 3, 1) := by decide +kernel
theorem dX5_inPlace_21 : decode cX5_inPlace 21 = .ok (.iconst 0, 1) := by decide +kernel
theorem dX5_inPlace_22 : decode cX5_inPlace 22 = .ok (.istore 4, 2) := by decide +kernel
theorem dX5_inPlace_24 : decode cX5_inPlace 24 = .ok (.iload 4, 2) := by decide +kernel
theorem dX5_inPlace_26 : decode cX5_inPlace 26 = .ok (.iload_n 1, 1) := by decide +kernel
theorem dX5_inPlace_27 : decode cX5_inPlace 27 = .ok (.if_icmp .ge 26, 3) := by decide +kernel
theorem dX5_inPlace_30 : decode cX5_inPlace 30 = .ok (.iload_n 3, 1) := by decide +kernel
theorem dX5_inPlace_31 : decode cX5_inPlace 31 = .ok (.iconst (-1), 1) := by decide +kernel
theorem dX5_inPlace_32 : decode cX5_inPlace 32 = .ok (.if_icmp .eq 21, 3) := by decide +kernel
theorem dX5_inPlace_35 : decode cX5_inPlace 35 = .ok (.iload_n 2, 1) := by decide +kernel
theorem dX5_inPlace_36 : decode cX5_inPlace 36 = .ok (.iconst 1, 1) := by decide +kernel
theorem dX5_inPlace_37 : decode cX5_inPlace 37 = .ok (.iload_n 3, 1) := by decide +kernel
theorem dX5_inPlace_38 : decode cX5_inPlace 38 = .ok (.ishl, 1) := by decide +kernel
theorem dX5_inPlace_39 : decode cX5_inPlace 39 = .ok (.ior, 1) := by decide +kernel
theorem dX5_inPlace_40 : decode cX5_inPlace 40 = .ok (.istore_n 2, 1) := by decide +kernel
theorem dX5_inPlace_41 : decode cX5_inPlace 41 = .ok (.aload_n 0, 1) := by decide +kernel
theorem dX5_inPlace_42 : decode cX5_inPlace 42 = .ok (.iload_n 2, 1) := by decide +kernel
theorem dX5_inPlace_43 : decode cX5_inPlace 43 = .ok (.invokevirtual 31, 3) := by decide +kernel
theorem dX5_inPlace_46 : decode cX5_inPlace 46 = .ok (.istore_n 3, 1) := by decide +kernel
theorem dX5_inPlace_47 : decode cX5_inPlace 47 = .ok (.iinc 4 1, 3) := by decide +kernel
theorem dX5_inPlace_50 : decode cX5_inPlace 50 = .ok (.goto (-26), 3) := by decide +kernel
theorem dX5_inPlace_53 : decode cX5_inPlace 53 = .ok (.iload_n 3, 1) := by decide +kernel
theorem dX5_inPlace_54 : decode cX5_inPlace 54 = .ok (.aload_n 0, 1) := by decide +kernel
theorem dX5_inPlace_55 : decode cX5_inPlace 55 = .ok (.getfield 24, 3) := by decide +kernel
theorem dX5_inPlace_58 : decode cX5_inPlace 58 = .ok (.invokestatic 39, 3) := by decide +kernel
theorem dX5_inPlace_61 : decode cX5_inPlace 61 = .ok (.ifCond .eq 12, 3) := by decide +kernel
theorem dX5_inPlace_64 : decode cX5_inPlace 64 = .ok (.aload_n 0, 1) := by decide +kernel
theorem dX5_inPlace_65 : decode cX5_inPlace 65 = .ok (.getfield 11, 3) := by decide +kernel
theorem dX5_inPlace_68 : decode cX5_inPlace 68 = .ok (.iload_n 3, 1) := by decide +kernel
theorem dX5_inPlace_69 : decode cX5_inPlace 69 = .ok (.iaload, 1) := by decide +kernel
theorem dX5_inPlace_70 : decode cX5_inPlace 70 = .ok (.goto 4, 3) := by decide +kernel
theorem dX5_inPlace_73 : decode cX5_inPlace 73 = .ok (.iconst (-1), 1) := by decide +kernel
theorem dX5_inPlace_74 : decode cX5_inPlace 74 = .ok (.ireturn, 1) := by decide +kernel
set_option maxRecDepth 20000 in
theorem ggX5_bestNext_X5_restWith : GoodIn wsX5_bestNext wsX5_restWith := goodIn_r _ [6, 1, 7, 8, 9, 10, 11, 12, 13, 14, 15, 16, 17, 18, 5, 19, 20, 21, 22, 23, 24, 25, 26, 27] (by decide +kernel) (by decide +kernel)
set_option maxRecDepth 20000 in
theorem gX5_bestNext_X5_restWith : GoodIn wsX5_bestNext (wsV RX5 35 RX5 yX5_restWith wsX5_restWith) := goodIn_app (goodIn_of _ (by decide +kernel)) ggX5_bestNext_X5_restWith
theorem dX5_bestNext_0 : decode cX5_bestNext 0 = .ok (.iconst (-1), 1) := by decide +kernel
theorem dX5_bestNext_1 : decode cX5_bestNext 1 = .ok (.istore_n 2, 1) := by decide +kernel
theorem dX5_bestNext_2 : decode cX5_bestNext 2 = .ok (.iconst 0, 1) := by decide +kernel
theorem dX5_bestNext_3 : decode cX5_bestNext 3 = .ok (.istore_n 3, 1) := by decide +kernel
theorem dX5_bestNext_4 : decode cX5_bestNext 4 = .ok (.iload_n 3, 1) := by decide +kernel
theorem dX5_bestNext_5 : decode cX5_bestNext 5 = .ok (.aload_n 0, 1) := by decide +kernel
theorem dX5_bestNext_6 : decode cX5_bestNext 6 = .ok (.getfield 24, 3) := by decide +kernel
theorem dX5_bestNext_9 : decode cX5_bestNext 9 = .ok (.if_icmp .ge 51, 3) := by decide +kernel
theorem dX5_bestNext_12 : decode cX5_bestNext 12 = .ok (.iload_n 1, 1) := by decide +kernel
theorem dX5_bestNext_13 : decode cX5_bestNext 13 = .ok (.iload_n 3, 1) := by decide +kernel
theorem dX5_bestNext_14 : decode cX5_bestNext 14 = .ok (.ishr, 1) := by decide +kernel
theorem dX5_bestNext_15 : decode cX5_bestNext 15 = .ok (.iconst 1, 1) := by decide +kernel
theorem dX5_bestNext_16 : decode cX5_bestNext 16 = .ok (.iand, 1) := by decide +kernel
theorem dX5_bestNext_17 : decode cX5_bestNext 17 = .ok (.ifCond .ne 7, 3) := by decide +kernel
theorem dX5_bestNext_20 : decode cX5_bestNext 20 = .ok (.iconst 1, 1) := by decide +kernel
theorem dX5_bestNext_21 : decode cX5_bestNext 21 = .ok (.goto 4, 3) := by decide +kernel
theorem dX5_bestNext_24 : decode cX5_bestNext 24 = .ok (.iconst 0, 1) := by decide +kernel
theorem dX5_bestNext_25 : decode cX5_bestNext 25 = .ok (.istore 4, 2) := by decide +kernel
theorem dX5_bestNext_27 : decode cX5_bestNext 27 = .ok (.iload 4, 2) := by decide +kernel
theorem dX5_bestNext_29 : decode cX5_bestNext 29 = .ok (.ifCond .eq 25, 3) := by decide +kernel
theorem dX5_bestNext_32 : decode cX5_bestNext 32 = .ok (.iload_n 2, 1) := by decide +kernel
theorem dX5_bestNext_33 : decode cX5_bestNext 33 = .ok (.iconst (-1), 1) := by decide +kernel
theorem dX5_bestNext_34 : decode cX5_bestNext 34 = .ok (.if_icmp .eq 18, 3) := by decide +kernel
theorem dX5_bestNext_37 : decode cX5_bestNext 37 = .ok (.aload_n 0, 1) := by decide +kernel
theorem dX5_bestNext_38 : decode cX5_bestNext 38 = .ok (.iload_n 1, 1) := by decide +kernel
theorem dX5_bestNext_39 : decode cX5_bestNext 39 = .ok (.iload_n 3, 1) := by decide +kernel
theorem dX5_bestNext_40 : decode cX5_bestNext 40 = .ok (.invokevirtual 35, 3) := by decide +kernel
theorem dX5_bestNext_43 : decode cX5_bestNext 43 = .ok (.aload_n 0, 1) := by decide +kernel
theorem dX5_bestNext_44 : decode cX5_bestNext 44 = .ok (.iload_n 1, 1) := by decide +kernel
theorem dX5_bestNext_45 : decode cX5_bestNext 45 = .ok (.iload_n 2, 1) := by decide +kernel
theorem dX5_bestNext_46 : decode cX5_bestNext 46 = .ok (.invokevirtual 35, 3) := by decide +kernel
theorem dX5_bestNext_49 : decode cX5_bestNext 49 = .ok (.if_icmp .ge 5, 3) := by decide +kernel
theorem dX5_bestNext_52 : decode cX5_bestNext 52 = .ok (.iload_n 3, 1) := by decide +kernel
theorem dX5_bestNext_53 : decode cX5_bestNext 53 = .ok (.istore_n 2, 1) := by decide +kernel
theorem dX5_bestNext_54 : decode cX5_bestNext 54 = .ok (.iinc 3 1, 3) := by decide +kernel
theorem dX5_bestNext_57 : decode cX5_bestNext 57 = .ok (.goto (-53), 3) := by decide +kernel
theorem dX5_bestNext_60 : decode cX5_bestNext 60 = .ok (.iload_n 2, 1) := by decide +kernel
theorem dX5_bestNext_61 : decode cX5_bestNext 61 = .ok (.ireturn, 1) := by decide +kernel
set_option maxRecDepth 20000 in
theorem ggX5_restWith_X9_isPlace : GoodIn wsX5_restWith wsX9_isPlace := goodIn_r _ [10] (by decide +kernel) (by decide +kernel)
set_option maxRecDepth 20000 in
theorem gX5_restWith_X9_isPlace_n39 : GoodIn wsX5_restWith (wsX9_isPlace) := ggX5_restWith_X9_isPlace
set_option maxRecDepth 20000 in
theorem ggX5_restWith_X5_endOf : GoodIn wsX5_restWith wsX5_endOf := goodIn_r _ [15, 16, 1, 17, 18, 19, 20, 21, 22, 23] (by decide +kernel) (by decide +kernel)
set_option maxRecDepth 20000 in
theorem gX5_restWith_X5_endOf : GoodIn wsX5_restWith (wsV RX5 43 RX5 yX5_endOf wsX5_endOf) := goodIn_app (goodIn_of _ (by decide +kernel)) ggX5_restWith_X5_endOf
theorem dX5_restWith_0 : decode cX5_restWith 0 = .ok (.iload_n 1, 1) := by decide +kernel
theorem dX5_restWith_1 : decode cX5_restWith 1 = .ok (.iconst 1, 1) := by decide +kernel
theorem dX5_restWith_2 : decode cX5_restWith 2 = .ok (.iload_n 2, 1) := by decide +kernel
theorem dX5_restWith_3 : decode cX5_restWith 3 = .ok (.ishl, 1) := by decide +kernel
theorem dX5_restWith_4 : decode cX5_restWith 4 = .ok (.ior, 1) := by decide +kernel
theorem dX5_restWith_5 : decode cX5_restWith 5 = .ok (.istore_n 3, 1) := by decide +kernel
theorem dX5_restWith_6 : decode cX5_restWith 6 = .ok (.iload_n 2, 1) := by decide +kernel
theorem dX5_restWith_7 : decode cX5_restWith 7 = .ok (.aload_n 0, 1) := by decide +kernel
theorem dX5_restWith_8 : decode cX5_restWith 8 = .ok (.getfield 24, 3) := by decide +kernel
theorem dX5_restWith_11 : decode cX5_restWith 11 = .ok (.invokestatic 39, 3) := by decide +kernel
theorem dX5_restWith_14 : decode cX5_restWith 14 = .ok (.ifCond .eq 15, 3) := by decide +kernel
theorem dX5_restWith_17 : decode cX5_restWith 17 = .ok (.iload_n 3, 1) := by decide +kernel
theorem dX5_restWith_18 : decode cX5_restWith 18 = .ok (.aload_n 0, 1) := by decide +kernel
theorem dX5_restWith_19 : decode cX5_restWith 19 = .ok (.getfield 21, 3) := by decide +kernel
theorem dX5_restWith_22 : decode cX5_restWith 22 = .ok (.arraylength, 1) := by decide +kernel
theorem dX5_restWith_23 : decode cX5_restWith 23 = .ok (.invokestatic 39, 3) := by decide +kernel
theorem dX5_restWith_26 : decode cX5_restWith 26 = .ok (.ifCond .ne 5, 3) := by decide +kernel
theorem dX5_restWith_29 : decode cX5_restWith 29 = .ok (.iconst 0, 1) := by decide +kernel
theorem dX5_restWith_30 : decode cX5_restWith 30 = .ok (.ireturn, 1) := by decide +kernel
theorem dX5_restWith_31 : decode cX5_restWith 31 = .ok (.iconst 0, 1) := by decide +kernel
theorem dX5_restWith_32 : decode cX5_restWith 32 = .ok (.aload_n 0, 1) := by decide +kernel
theorem dX5_restWith_33 : decode cX5_restWith 33 = .ok (.iload_n 3, 1) := by decide +kernel
theorem dX5_restWith_34 : decode cX5_restWith 34 = .ok (.invokevirtual 43, 3) := by decide +kernel
theorem dX5_restWith_37 : decode cX5_restWith 37 = .ok (.aload_n 0, 1) := by decide +kernel
theorem dX5_restWith_38 : decode cX5_restWith 38 = .ok (.getfield 18, 3) := by decide +kernel
theorem dX5_restWith_41 : decode cX5_restWith 41 = .ok (.iload_n 2, 1) := by decide +kernel
theorem dX5_restWith_42 : decode cX5_restWith 42 = .ok (.iaload, 1) := by decide +kernel
theorem dX5_restWith_43 : decode cX5_restWith 43 = .ok (.isub, 1) := by decide +kernel
theorem dX5_restWith_44 : decode cX5_restWith 44 = .ok (.invokestatic 46, 3) := by decide +kernel
theorem dX5_restWith_47 : decode cX5_restWith 47 = .ok (.aload_n 0, 1) := by decide +kernel
theorem dX5_restWith_48 : decode cX5_restWith 48 = .ok (.getfield 21, 3) := by decide +kernel
theorem dX5_restWith_51 : decode cX5_restWith 51 = .ok (.iload_n 3, 1) := by decide +kernel
theorem dX5_restWith_52 : decode cX5_restWith 52 = .ok (.iaload, 1) := by decide +kernel
theorem dX5_restWith_53 : decode cX5_restWith 53 = .ok (.iadd, 1) := by decide +kernel
theorem dX5_restWith_54 : decode cX5_restWith 54 = .ok (.ireturn, 1) := by decide +kernel
theorem dX5_endOf_0 : decode cX5_endOf 0 = .ok (.aload_n 0, 1) := by decide +kernel
theorem dX5_endOf_1 : decode cX5_endOf 1 = .ok (.getfield 28, 3) := by decide +kernel
theorem dX5_endOf_4 : decode cX5_endOf 4 = .ok (.istore_n 2, 1) := by decide +kernel
theorem dX5_endOf_5 : decode cX5_endOf 5 = .ok (.iconst 0, 1) := by decide +kernel
theorem dX5_endOf_6 : decode cX5_endOf 6 = .ok (.istore_n 3, 1) := by decide +kernel
theorem dX5_endOf_7 : decode cX5_endOf 7 = .ok (.iload_n 3, 1) := by decide +kernel
theorem dX5_endOf_8 : decode cX5_endOf 8 = .ok (.aload_n 0, 1) := by decide +kernel
theorem dX5_endOf_9 : decode cX5_endOf 9 = .ok (.getfield 24, 3) := by decide +kernel
theorem dX5_endOf_12 : decode cX5_endOf 12 = .ok (.if_icmp .ge 27, 3) := by decide +kernel
theorem dX5_endOf_15 : decode cX5_endOf 15 = .ok (.iload_n 1, 1) := by decide +kernel
theorem dX5_endOf_16 : decode cX5_endOf 16 = .ok (.iload_n 3, 1) := by decide +kernel
theorem dX5_endOf_17 : decode cX5_endOf 17 = .ok (.ishr, 1) := by decide +kernel
theorem dX5_endOf_18 : decode cX5_endOf 18 = .ok (.iconst 1, 1) := by decide +kernel
theorem dX5_endOf_19 : decode cX5_endOf 19 = .ok (.iand, 1) := by decide +kernel
theorem dX5_endOf_20 : decode cX5_endOf 20 = .ok (.iconst 1, 1) := by decide +kernel
theorem dX5_endOf_21 : decode cX5_endOf 21 = .ok (.if_icmp .ne 12, 3) := by decide +kernel
theorem dX5_endOf_24 : decode cX5_endOf 24 = .ok (.iload_n 2, 1) := by decide +kernel
theorem dX5_endOf_25 : decode cX5_endOf 25 = .ok (.aload_n 0, 1) := by decide +kernel
theorem dX5_endOf_26 : decode cX5_endOf 26 = .ok (.getfield 15, 3) := by decide +kernel
theorem dX5_endOf_29 : decode cX5_endOf 29 = .ok (.iload_n 3, 1) := by decide +kernel
theorem dX5_endOf_30 : decode cX5_endOf 30 = .ok (.iaload, 1) := by decide +kernel
theorem dX5_endOf_31 : decode cX5_endOf 31 = .ok (.iadd, 1) := by decide +kernel
theorem dX5_endOf_32 : decode cX5_endOf 32 = .ok (.istore_n 2, 1) := by decide +kernel
theorem dX5_endOf_33 : decode cX5_endOf 33 = .ok (.iinc 3 1, 3) := by decide +kernel
theorem dX5_endOf_36 : decode cX5_endOf 36 = .ok (.goto (-29), 3) := by decide +kernel
theorem dX5_endOf_39 : decode cX5_endOf 39 = .ok (.iload_n 2, 1) := by decide +kernel
theorem dX5_endOf_40 : decode cX5_endOf 40 = .ok (.ireturn, 1) := by decide +kernel
theorem dX6_init_0 : decode cX6_init 0 = .ok (.aload_n 0, 1) := by decide +kernel
theorem dX6_init_1 : decode cX6_init 1 = .ok (.invokespecial 3, 3) := by decide +kernel
theorem dX6_init_4 : decode cX6_init 4 = .ok (.aload_n 0, 1) := by decide +kernel
theorem dX6_init_5 : decode cX6_init 5 = .ok (.iload_n 2, 1) := by decide +kernel
theorem dX6_init_6 : decode cX6_init 6 = .ok (.putfield 9, 3) := by decide +kernel
theorem dX6_init_9 : decode cX6_init 9 = .ok (.aload_n 0, 1) := by decide +kernel
theorem dX6_init_10 : decode cX6_init 10 = .ok (.iload_n 3, 1) := by decide +kernel
theorem dX6_init_11 : decode cX6_init 11 = .ok (.putfield 15, 3) := by decide +kernel
theorem dX6_init_14 : decode cX6_init 14 = .ok (.aload_n 0, 1) := by decide +kernel
theorem dX6_init_15 : decode cX6_init 15 = .ok (.iload 4, 2) := by decide +kernel
theorem dX6_init_17 : decode cX6_init 17 = .ok (.putfield 18, 3) := by decide +kernel
theorem dX6_init_20 : decode cX6_init 20 = .ok (.aload_n 0, 1) := by decide +kernel
theorem dX6_init_21 : decode cX6_init 21 = .ok (.iload 5, 2) := by decide +kernel
theorem dX6_init_23 : decode cX6_init 23 = .ok (.putfield 21, 3) := by decide +kernel
theorem dX6_init_26 : decode cX6_init 26 = .ok (.aload_n 0, 1) := by decide +kernel
theorem dX6_init_27 : decode cX6_init 27 = .ok (.iload_n 1, 1) := by decide +kernel
theorem dX6_init_28 : decode cX6_init 28 = .ok (.newarray .int, 2) := by decide +kernel
theorem dX6_init_30 : decode cX6_init 30 = .ok (.putfield 24, 3) := by decide +kernel
theorem dX6_init_33 : decode cX6_init 33 = .ok (.aload_n 0, 1) := by decide +kernel
theorem dX6_init_34 : decode cX6_init 34 = .ok (.iconst 4, 1) := by decide +kernel
theorem dX6_init_35 : decode cX6_init 35 = .ok (.newarray .int, 2) := by decide +kernel
theorem dX6_init_37 : decode cX6_init 37 = .ok (.putfield 28, 3) := by decide +kernel
theorem dX6_init_40 : decode cX6_init 40 = .ok (.aload_n 0, 1) := by decide +kernel
theorem dX6_init_41 : decode cX6_init 41 = .ok (.iconst 0, 1) := by decide +kernel
theorem dX6_init_42 : decode cX6_init 42 = .ok (.putfield 31, 3) := by decide +kernel
theorem dX6_init_45 : decode cX6_init 45 = .ok (.aload_n 0, 1) := by decide +kernel
theorem dX6_init_46 : decode cX6_init 46 = .ok (.iconst (-1), 1) := by decide +kernel
theorem dX6_init_47 : decode cX6_init 47 = .ok (.putfield 34, 3) := by decide +kernel
theorem dX6_init_50 : decode cX6_init 50 = .ok (.aload_n 0, 1) := by decide +kernel
theorem dX6_init_51 : decode cX6_init 51 = .ok (.iconst 0, 1) := by decide +kernel
theorem dX6_init_52 : decode cX6_init 52 = .ok (.putfield 37, 3) := by decide +kernel
theorem dX6_init_55 : decode cX6_init 55 = .ok (.aload_n 0, 1) := by decide +kernel
theorem dX6_init_56 : decode cX6_init 56 = .ok (.iconst 0, 1) := by decide +kernel
theorem dX6_init_57 : decode cX6_init 57 = .ok (.putfield 40, 3) := by decide +kernel
theorem dX6_init_60 : decode cX6_init 60 = .ok (.aload_n 0, 1) := by decide +kernel
theorem dX6_init_61 : decode cX6_init 61 = .ok (.sipush 400, 3) := by decide +kernel
theorem dX6_init_64 : decode cX6_init 64 = .ok (.putfield 43, 3) := by decide +kernel
theorem dX6_init_67 : decode cX6_init 67 = .ok (.aload_n 0, 1) := by decide +kernel
theorem dX6_init_68 : decode cX6_init 68 = .ok (.iconst 0, 1) := by decide +kernel
theorem dX6_init_69 : decode cX6_init 69 = .ok (.putfield 46, 3) := by decide +kernel
theorem dX6_init_72 : decode cX6_init 72 = .ok (.return_, 1) := by decide +kernel
theorem dX6_hasCome_0 : decode cX6_hasCome 0 = .ok (.aload_n 0, 1) := by decide +kernel
theorem dX6_hasCome_1 : decode cX6_hasCome 1 = .ok (.getfield 34, 3) := by decide +kernel
theorem dX6_hasCome_4 : decode cX6_hasCome 4 = .ok (.iconst (-1), 1) := by decide +kernel
theorem dX6_hasCome_5 : decode cX6_hasCome 5 = .ok (.if_icmp .eq 7, 3) := by decide +kernel
theorem dX6_hasCome_8 : decode cX6_hasCome 8 = .ok (.iconst 1, 1) := by decide +kernel
theorem dX6_hasCome_9 : decode cX6_hasCome 9 = .ok (.goto 4, 3) := by decide +kernel
theorem dX6_hasCome_12 : decode cX6_hasCome 12 = .ok (.iconst 0, 1) := by decide +kernel
theorem dX6_hasCome_13 : decode cX6_hasCome 13 = .ok (.ireturn, 1) := by decide +kernel
theorem dX6_bagsLeft_0 : decode cX6_bagsLeft 0 = .ok (.aload_n 0, 1) := by decide +kernel
theorem dX6_bagsLeft_1 : decode cX6_bagsLeft 1 = .ok (.getfield 18, 3) := by decide +kernel
theorem dX6_bagsLeft_4 : decode cX6_bagsLeft 4 = .ok (.aload_n 0, 1) := by decide +kernel
theorem dX6_bagsLeft_5 : decode cX6_bagsLeft 5 = .ok (.getfield 37, 3) := by decide +kernel
theorem dX6_bagsLeft_8 : decode cX6_bagsLeft 8 = .ok (.isub, 1) := by decide +kernel
theorem dX6_bagsLeft_9 : decode cX6_bagsLeft 9 = .ok (.ireturn, 1) := by decide +kernel
set_option maxRecDepth 20000 in
theorem ggX6_beginDay_X6_hasCome : GoodIn wsX6_beginDay wsX6_hasCome := goodIn_r _ [8, 9, 13, 14, 15, 16, 17, 18, 19, 20, 21, 22, 23, 24] (by decide +kernel) (by decide +kernel)
set_option maxRecDepth 20000 in
theorem gX6_beginDay_X6_hasCome : GoodIn wsX6_beginDay (wsV RX6 50 RX6 yX6_hasCome wsX6_hasCome) := goodIn_app (goodIn_of _ (by decide +kernel)) ggX6_beginDay_X6_hasCome
set_option maxRecDepth 20000 in
theorem ggX6_beginDay_X9_isPlace : GoodIn wsX6_beginDay wsX9_isPlace := goodIn_r _ [12] (by decide +kernel) (by decide +kernel)
set_option maxRecDepth 20000 in
theorem gX6_beginDay_X9_isPlace_n54 : GoodIn wsX6_beginDay (wsX9_isPlace) := ggX6_beginDay_X9_isPlace
theorem dX6_beginDay_0 : decode cX6_beginDay 0 = .ok (.aload_n 0, 1) := by decide +kernel
theorem dX6_beginDay_1 : decode cX6_beginDay 1 = .ok (.iconst 0, 1) := by decide +kernel
theorem dX6_beginDay_2 : decode cX6_beginDay 2 = .ok (.putfield 40, 3) := by decide +kernel
theorem dX6_beginDay_5 : decode cX6_beginDay 5 = .ok (.aload_n 0, 1) := by decide +kernel
theorem dX6_beginDay_6 : decode cX6_beginDay 6 = .ok (.invokevirtual 50, 3) := by decide +kernel
theorem dX6_beginDay_9 : decode cX6_beginDay 9 = .ok (.ifCond .ne 31, 3) := by decide +kernel
theorem dX6_beginDay_12 : decode cX6_beginDay 12 = .ok (.aload_n 0, 1) := by decide +kernel
theorem dX6_beginDay_13 : decode cX6_beginDay 13 = .ok (.getfield 31, 3) := by decide +kernel
theorem dX6_beginDay_16 : decode cX6_beginDay 16 = .ok (.aload_n 0, 1) := by decide +kernel
theorem dX6_beginDay_17 : decode cX6_beginDay 17 = .ok (.getfield 24, 3) := by decide +kernel
theorem dX6_beginDay_20 : decode cX6_beginDay 20 = .ok (.arraylength, 1) := by decide +kernel
theorem dX6_beginDay_21 : decode cX6_beginDay 21 = .ok (.invokestatic 54, 3) := by decide +kernel
theorem dX6_beginDay_24 : decode cX6_beginDay 24 = .ok (.ifCond .eq 16, 3) := by decide +kernel
theorem dX6_beginDay_27 : decode cX6_beginDay 27 = .ok (.aload_n 0, 1) := by decide +kernel
theorem dX6_beginDay_28 : decode cX6_beginDay 28 = .ok (.getfield 24, 3) := by decide +kernel
theorem dX6_beginDay_31 : decode cX6_beginDay 31 = .ok (.aload_n 0, 1) := by decide +kernel
theorem dX6_beginDay_32 : decode cX6_beginDay 32 = .ok (.getfield 31, 3) := by decide +kernel
theorem dX6_beginDay_35 : decode cX6_beginDay 35 = .ok (.dup2, 1) := by decide +kernel
theorem dX6_beginDay_36 : decode cX6_beginDay 36 = .ok (.iaload, 1) := by decide +kernel
theorem dX6_beginDay_37 : decode cX6_beginDay 37 = .ok (.iconst 1, 1) := by decide +kernel
theorem dX6_beginDay_38 : decode cX6_beginDay 38 = .ok (.iadd, 1) := by decide +kernel
theorem dX6_beginDay_39 : decode cX6_beginDay 39 = .ok (.iastore, 1) := by decide +kernel
theorem dX6_beginDay_40 : decode cX6_beginDay 40 = .ok (.return_, 1) := by decide +kernel
theorem dX6_moveUp_0 : decode cX6_moveUp 0 = .ok (.aload_n 0, 1) := by decide +kernel
theorem dX6_moveUp_1 : decode cX6_moveUp 1 = .ok (.dup, 1) := by decide +kernel
theorem dX6_moveUp_2 : decode cX6_moveUp 2 = .ok (.getfield 31, 3) := by decide +kernel
theorem dX6_moveUp_5 : decode cX6_moveUp 5 = .ok (.iconst 1, 1) := by decide +kernel
theorem dX6_moveUp_6 : decode cX6_moveUp 6 = .ok (.iadd, 1) := by decide +kernel
theorem dX6_moveUp_7 : decode cX6_moveUp 7 = .ok (.putfield 31, 3) := by decide +kernel
theorem dX6_moveUp_10 : decode cX6_moveUp 10 = .ok (.aload_n 0, 1) := by decide +kernel
theorem dX6_moveUp_11 : decode cX6_moveUp 11 = .ok (.getfield 31, 3) := by decide +kernel
theorem dX6_moveUp_14 : decode cX6_moveUp 14 = .ok (.aload_n 0, 1) := by decide +kernel
theorem dX6_moveUp_15 : decode cX6_moveUp 15 = .ok (.getfield 24, 3) := by decide +kernel
theorem dX6_moveUp_18 : decode cX6_moveUp 18 = .ok (.arraylength, 1) := by decide +kernel
theorem dX6_moveUp_19 : decode cX6_moveUp 19 = .ok (.iconst 1, 1) := by decide +kernel
theorem dX6_moveUp_20 : decode cX6_moveUp 20 = .ok (.isub, 1) := by decide +kernel
theorem dX6_moveUp_21 : decode cX6_moveUp 21 = .ok (.if_icmp .lt 8, 3) := by decide +kernel
theorem dX6_moveUp_24 : decode cX6_moveUp 24 = .ok (.aload_n 0, 1) := by decide +kernel
theorem dX6_moveUp_25 : decode cX6_moveUp 25 = .ok (.iload_n 1, 1) := by decide +kernel
theorem dX6_moveUp_26 : decode cX6_moveUp 26 = .ok (.putfield 34, 3) := by decide +kernel
theorem dX6_moveUp_29 : decode cX6_moveUp 29 = .ok (.return_, 1) := by decide +kernel
set_option maxRecDepth 20000 in
theorem ggX6_stay_X9_isPlace : GoodIn wsX6_stay wsX9_isPlace := goodIn_r _ [5] (by decide +kernel) (by decide +kernel)
set_option maxRecDepth 20000 in
theorem gX6_stay_X9_isPlace_n54 : GoodIn wsX6_stay (wsX9_isPlace) := ggX6_stay_X9_isPlace
theorem dX6_stay_0 : decode cX6_stay 0 = .ok (.aload_n 0, 1) := by decide +kernel
theorem dX6_stay_1 : decode cX6_stay 1 = .ok (.iload_n 1, 1) := by decide +kernel
theorem dX6_stay_2 : decode cX6_stay 2 = .ok (.putfield 40, 3) := by decide +kernel
theorem dX6_stay_5 : decode cX6_stay 5 = .ok (.iload_n 1, 1) := by decide +kernel
theorem dX6_stay_6 : decode cX6_stay 6 = .ok (.iconst 1, 1) := by decide +kernel
theorem dX6_stay_7 : decode cX6_stay 7 = .ok (.isub, 1) := by decide +kernel
theorem dX6_stay_8 : decode cX6_stay 8 = .ok (.iconst 4, 1) := by decide +kernel
theorem dX6_stay_9 : decode cX6_stay 9 = .ok (.invokestatic 54, 3) := by decide +kernel
theorem dX6_stay_12 : decode cX6_stay 12 = .ok (.ifCond .eq 15, 3) := by decide +kernel
theorem dX6_stay_15 : decode cX6_stay 15 = .ok (.aload_n 0, 1) := by decide +kernel
theorem dX6_stay_16 : decode cX6_stay 16 = .ok (.getfield 28, 3) := by decide +kernel
theorem dX6_stay_19 : decode cX6_stay 19 = .ok (.iload_n 1, 1) := by decide +kernel
theorem dX6_stay_20 : decode cX6_stay 20 = .ok (.iconst 1, 1) := by decide +kernel
theorem dX6_stay_21 : decode cX6_stay 21 = .ok (.isub, 1) := by decide +kernel
theorem dX6_stay_22 : decode cX6_stay 22 = .ok (.dup2, 1) := by decide +kernel
theorem dX6_stay_23 : decode cX6_stay 23 = .ok (.iaload, 1) := by decide +kernel
theorem dX6_stay_24 : decode cX6_stay 24 = .ok (.iconst 1, 1) := by decide +kernel
theorem dX6_stay_25 : decode cX6_stay 25 = .ok (.iadd, 1) := by decide +kernel
theorem dX6_stay_26 : decode cX6_stay 26 = .ok (.iastore, 1) := by decide +kernel
theorem dX6_stay_27 : decode cX6_stay 27 = .ok (.return_, 1) := by decide +kernel
set_option maxRecDepth 20000 in
theorem ggX6_tell_X6_bagsLeft : GoodIn wsX6_tell wsX6_bagsLeft := goodIn_r _ [10, 11, 12, 21, 22, 23, 24, 25, 26, 27, 28, 29, 30, 31, 32] (by decide +kernel) (by decide +kernel)
set_option maxRecDepth 20000 in
theorem gX6_tell_X6_bagsLeft : GoodIn wsX6_tell (wsV RX6 58 RX6 yX6_bagsLeft wsX6_bagsLeft) := goodIn_app (goodIn_of _ (by decide +kernel)) ggX6_tell_X6_bagsLeft
set_option maxRecDepth 20000 in
theorem ggX6_tell_X9_isPlace : GoodIn wsX6_tell wsX9_isPlace := goodIn_r _ [15] (by decide +kernel) (by decide +kernel)
set_option maxRecDepth 20000 in
theorem gX6_tell_X9_isPlace_n54 : GoodIn wsX6_tell (wsX9_isPlace) := ggX6_tell_X9_isPlace
set_option maxRecDepth 20000 in
theorem ggX6_tell_X6_tellDays : GoodIn wsX6_tell wsX6_tellDays := goodIn_r _ [19, 4, 20, 13, 14, 15, 21, 22, 23, 24, 25, 26, 27, 28, 29, 30, 31, 32] (by decide +kernel) (by decide +kernel)
set_option maxRecDepth 20000 in
theorem gX6_tell_X6_tellDays : GoodIn wsX6_tell (wsV RX6 62 RX6 yX6_tellDays wsX6_tellDays) := goodIn_app (goodIn_of _ (by decide +kernel)) ggX6_tell_X6_tellDays
theorem dX6_tell_0 : decode cX6_tell 0 = .ok (.iload_n 1, 1) := by decide +kernel
theorem dX6_tell_1 : decode cX6_tell 1 = .ok (.tableswitch 101 0 5 #[39, 44, 49, 54, 59, 88], 39) := by decide +kernel
theorem dX6_tell_40 : decode cX6_tell 40 = .ok (.aload_n 0, 1) := by decide +kernel
theorem dX6_tell_41 : decode cX6_tell 41 = .ok (.getfield 31, 3) := by decide +kernel
theorem dX6_tell_44 : decode cX6_tell 44 = .ok (.ireturn, 1) := by decide +kernel
theorem dX6_tell_45 : decode cX6_tell 45 = .ok (.aload_n 0, 1) := by decide +kernel
theorem dX6_tell_46 : decode cX6_tell 46 = .ok (.getfield 34, 3) := by decide +kernel
theorem dX6_tell_49 : decode cX6_tell 49 = .ok (.ireturn, 1) := by decide +kernel
theorem dX6_tell_50 : decode cX6_tell 50 = .ok (.aload_n 0, 1) := by decide +kernel
theorem dX6_tell_51 : decode cX6_tell 51 = .ok (.invokevirtual 58, 3) := by decide +kernel
theorem dX6_tell_54 : decode cX6_tell 54 = .ok (.ireturn, 1) := by decide +kernel
theorem dX6_tell_55 : decode cX6_tell 55 = .ok (.aload_n 0, 1) := by decide +kernel
theorem dX6_tell_56 : decode cX6_tell 56 = .ok (.getfield 40, 3) := by decide +kernel
theorem dX6_tell_59 : decode cX6_tell 59 = .ok (.ireturn, 1) := by decide +kernel
theorem dX6_tell_60 : decode cX6_tell 60 = .ok (.aload_n 0, 1) := by decide +kernel
theorem dX6_tell_61 : decode cX6_tell 61 = .ok (.getfield 31, 3) := by decide +kernel
theorem dX6_tell_64 : decode cX6_tell 64 = .ok (.aload_n 0, 1) := by decide +kernel
theorem dX6_tell_65 : decode cX6_tell 65 = .ok (.getfield 24, 3) := by decide +kernel
theorem dX6_tell_68 : decode cX6_tell 68 = .ok (.arraylength, 1) := by decide +kernel
theorem dX6_tell_69 : decode cX6_tell 69 = .ok (.invokestatic 54, 3) := by decide +kernel
theorem dX6_tell_72 : decode cX6_tell 72 = .ok (.ifCond .eq 15, 3) := by decide +kernel
theorem dX6_tell_75 : decode cX6_tell 75 = .ok (.aload_n 0, 1) := by decide +kernel
theorem dX6_tell_76 : decode cX6_tell 76 = .ok (.getfield 24, 3) := by decide +kernel
theorem dX6_tell_79 : decode cX6_tell 79 = .ok (.aload_n 0, 1) := by decide +kernel
theorem dX6_tell_80 : decode cX6_tell 80 = .ok (.getfield 31, 3) := by decide +kernel
theorem dX6_tell_83 : decode cX6_tell 83 = .ok (.iaload, 1) := by decide +kernel
theorem dX6_tell_84 : decode cX6_tell 84 = .ok (.goto 4, 3) := by decide +kernel
theorem dX6_tell_87 : decode cX6_tell 87 = .ok (.iconst (-1), 1) := by decide +kernel
theorem dX6_tell_88 : decode cX6_tell 88 = .ok (.ireturn, 1) := by decide +kernel
theorem dX6_tell_89 : decode cX6_tell 89 = .ok (.aload_n 0, 1) := by decide +kernel
theorem dX6_tell_90 : decode cX6_tell 90 = .ok (.getfield 46, 3) := by decide +kernel
theorem dX6_tell_93 : decode cX6_tell 93 = .ok (.ifCond .eq 7, 3) := by decide +kernel
theorem dX6_tell_96 : decode cX6_tell 96 = .ok (.iconst 1, 1) := by decide +kernel
theorem dX6_tell_97 : decode cX6_tell 97 = .ok (.goto 4, 3) := by decide +kernel
theorem dX6_tell_100 : decode cX6_tell 100 = .ok (.iconst 0, 1) := by decide +kernel
theorem dX6_tell_101 : decode cX6_tell 101 = .ok (.ireturn, 1) := by decide +kernel
theorem dX6_tell_102 : decode cX6_tell 102 = .ok (.aload_n 0, 1) := by decide +kernel
theorem dX6_tell_103 : decode cX6_tell 103 = .ok (.iload_n 1, 1) := by decide +kernel
theorem dX6_tell_104 : decode cX6_tell 104 = .ok (.invokevirtual 62, 3) := by decide +kernel
theorem dX6_tell_107 : decode cX6_tell 107 = .ok (.ireturn, 1) := by decide +kernel
set_option maxRecDepth 20000 in
theorem ggX6_tellDays_X9_isPlace : GoodIn wsX6_tellDays wsX9_isPlace := goodIn_r _ [5] (by decide +kernel) (by decide +kernel)
set_option maxRecDepth 20000 in
theorem gX6_tellDays_X9_isPlace_n54 : GoodIn wsX6_tellDays (wsX9_isPlace) := ggX6_tellDays_X9_isPlace
theorem dX6_tellDays_0 : decode cX6_tellDays 0 = .ok (.iload_n 1, 1) := by decide +kernel
theorem dX6_tellDays_1 : decode cX6_tellDays 1 = .ok (.bipush 10, 2) := by decide +kernel
theorem dX6_tellDays_3 : decode cX6_tellDays 3 = .ok (.isub, 1) := by decide +kernel
theorem dX6_tellDays_4 : decode cX6_tellDays 4 = .ok (.aload_n 0, 1) := by decide +kernel
theorem dX6_tellDays_5 : decode cX6_tellDays 5 = .ok (.getfield 24, 3) := by decide +kernel
theorem dX6_tellDays_8 : decode cX6_tellDays 8 = .ok (.arraylength, 1) := by decide +kernel
theorem dX6_tellDays_9 : decode cX6_tellDays 9 = .ok (.invokestatic 54, 3) := by decide +kernel
theorem dX6_tellDays_12 : decode cX6_tellDays 12 = .ok (.ifCond .eq 13, 3) := by decide +kernel
theorem dX6_tellDays_15 : decode cX6_tellDays 15 = .ok (.aload_n 0, 1) := by decide +kernel
theorem dX6_tellDays_16 : decode cX6_tellDays 16 = .ok (.getfield 24, 3) := by decide +kernel
theorem dX6_tellDays_19 : decode cX6_tellDays 19 = .ok (.iload_n 1, 1) := by decide +kernel
theorem dX6_tellDays_20 : decode cX6_tellDays 20 = .ok (.bipush 10, 2) := by decide +kernel
theorem dX6_tellDays_22 : decode cX6_tellDays 22 = .ok (.isub, 1) := by decide +kernel
theorem dX6_tellDays_23 : decode cX6_tellDays 23 = .ok (.iaload, 1) := by decide +kernel
theorem dX6_tellDays_24 : decode cX6_tellDays 24 = .ok (.ireturn, 1) := by decide +kernel
theorem dX6_tellDays_25 : decode cX6_tellDays 25 = .ok (.iload_n 1, 1) := by decide +kernel
theorem dX6_tellDays_26 : decode cX6_tellDays 26 = .ok (.bipush 31, 2) := by decide +kernel
theorem dX6_tellDays_28 : decode cX6_tellDays 28 = .ok (.isub, 1) := by decide +kernel
theorem dX6_tellDays_29 : decode cX6_tellDays 29 = .ok (.iconst 4, 1) := by decide +kernel
theorem dX6_tellDays_30 : decode cX6_tellDays 30 = .ok (.invokestatic 54, 3) := by decide +kernel
theorem dX6_tellDays_33 : decode cX6_tellDays 33 = .ok (.ifCond .eq 13, 3) := by decide +kernel
theorem dX6_tellDays_36 : decode cX6_tellDays 36 = .ok (.aload_n 0, 1) := by decide +kernel
theorem dX6_tellDays_37 : decode cX6_tellDays 37 = .ok (.getfield 28, 3) := by decide +kernel
theorem dX6_tellDays_40 : decode cX6_tellDays 40 = .ok (.iload_n 1, 1) := by decide +kernel
theorem dX6_tellDays_41 : decode cX6_tellDays 41 = .ok (.bipush 31, 2) := by decide +kernel
theorem dX6_tellDays_43 : decode cX6_tellDays 43 = .ok (.isub, 1) := by decide +kernel
theorem dX6_tellDays_44 : decode cX6_tellDays 44 = .ok (.iaload, 1) := by decide +kernel
theorem dX6_tellDays_45 : decode cX6_tellDays 45 = .ok (.ireturn, 1) := by decide +kernel
theorem dX6_tellDays_46 : decode cX6_tellDays 46 = .ok (.iconst (-1), 1) := by decide +kernel
theorem dX6_tellDays_47 : decode cX6_tellDays 47 = .ok (.ireturn, 1) := by decide +kernel
set_option maxRecDepth 20000 in
theorem ggX6_judgedBy_X6_daysOver : GoodIn wsX6_judgedBy wsX6_daysOver := goodIn_r _ [6, 7, 8, 9, 10, 11, 12, 13, 14, 15, 16, 17, 18, 19, 20, 42, 43, 44, 45, 46, 47, 48, 49, 50, 51, 52, 53, 35, 36, 37, 38, 39, 40, 41] (by decide +kernel) (by decide +kernel)
set_option maxRecDepth 20000 in
theorem gX6_judgedBy_X6_daysOver : GoodIn wsX6_judgedBy (wsV RX6 66 RX6 yX6_daysOver wsX6_daysOver) := goodIn_app (goodIn_of _ (by decide +kernel)) ggX6_judgedBy_X6_daysOver
set_option maxRecDepth 20000 in
theorem ggX6_judgedBy_X6_bagsShort : GoodIn wsX6_judgedBy wsX6_bagsShort := goodIn_r _ [24, 25, 26, 27, 8, 9, 10, 11, 42, 43, 44, 45, 46, 47, 48, 49, 50, 51, 52, 53, 35, 36, 37, 38, 39, 40, 41] (by decide +kernel) (by decide +kernel)
set_option maxRecDepth 20000 in
theorem gX6_judgedBy_X6_bagsShort : GoodIn wsX6_judgedBy (wsV RX6 70 RX6 yX6_bagsShort wsX6_bagsShort) := goodIn_app (goodIn_of _ (by decide +kernel)) ggX6_judgedBy_X6_bagsShort
set_option maxRecDepth 20000 in
theorem ggX6_judgedBy_X6_goodsOver : GoodIn wsX6_judgedBy wsX6_goodsOver := goodIn_r _ [31, 32, 33, 34, 8, 9, 10, 11, 42, 43, 44, 45, 46, 47, 48, 49, 50, 51, 52, 53, 35, 36, 37, 38, 39, 40, 41] (by decide +kernel) (by decide +kernel)
set_option maxRecDepth 20000 in
theorem gX6_judgedBy_X6_goodsOver : GoodIn wsX6_judgedBy (wsV RX6 73 RX6 yX6_goodsOver wsX6_goodsOver) := goodIn_app (goodIn_of _ (by decide +kernel)) ggX6_judgedBy_X6_goodsOver
theorem dX6_judgedBy_0 : decode cX6_judgedBy 0 = .ok (.iload_n 2, 1) := by decide +kernel
theorem dX6_judgedBy_1 : decode cX6_judgedBy 1 = .ok (.tableswitch 72 0 3 #[31, 37, 43, 49], 31) := by decide +kernel
theorem dX6_judgedBy_32 : decode cX6_judgedBy 32 = .ok (.aload_n 0, 1) := by decide +kernel
theorem dX6_judgedBy_33 : decode cX6_judgedBy 33 = .ok (.aload_n 1, 1) := by decide +kernel
theorem dX6_judgedBy_34 : decode cX6_judgedBy 34 = .ok (.invokevirtual 66, 3) := by decide +kernel
theorem dX6_judgedBy_37 : decode cX6_judgedBy 37 = .ok (.ireturn, 1) := by decide +kernel
theorem dX6_judgedBy_38 : decode cX6_judgedBy 38 = .ok (.aload_n 0, 1) := by decide +kernel
theorem dX6_judgedBy_39 : decode cX6_judgedBy 39 = .ok (.aload_n 1, 1) := by decide +kernel
theorem dX6_judgedBy_40 : decode cX6_judgedBy 40 = .ok (.invokevirtual 70, 3) := by decide +kernel
theorem dX6_judgedBy_43 : decode cX6_judgedBy 43 = .ok (.ireturn, 1) := by decide +kernel
theorem dX6_judgedBy_44 : decode cX6_judgedBy 44 = .ok (.aload_n 0, 1) := by decide +kernel
theorem dX6_judgedBy_45 : decode cX6_judgedBy 45 = .ok (.aload_n 1, 1) := by decide +kernel
theorem dX6_judgedBy_46 : decode cX6_judgedBy 46 = .ok (.invokevirtual 73, 3) := by decide +kernel
theorem dX6_judgedBy_49 : decode cX6_judgedBy 49 = .ok (.ireturn, 1) := by decide +kernel
theorem dX6_judgedBy_50 : decode cX6_judgedBy 50 = .ok (.aload_n 1, 1) := by decide +kernel
theorem dX6_judgedBy_51 : decode cX6_judgedBy 51 = .ok (.getfield 76, 3) := by decide +kernel
theorem dX6_judgedBy_54 : decode cX6_judgedBy 54 = .ok (.aload_n 0, 1) := by decide +kernel
theorem dX6_judgedBy_55 : decode cX6_judgedBy 55 = .ok (.aload_n 1, 1) := by decide +kernel
theorem dX6_judgedBy_56 : decode cX6_judgedBy 56 = .ok (.invokevirtual 66, 3) := by decide +kernel
theorem dX6_judgedBy_59 : decode cX6_judgedBy 59 = .ok (.aload_n 0, 1) := by decide +kernel
theorem dX6_judgedBy_60 : decode cX6_judgedBy 60 = .ok (.aload_n 1, 1) := by decide +kernel
theorem dX6_judgedBy_61 : decode cX6_judgedBy 61 = .ok (.invokevirtual 70, 3) := by decide +kernel
theorem dX6_judgedBy_64 : decode cX6_judgedBy 64 = .ok (.iadd, 1) := by decide +kernel
theorem dX6_judgedBy_65 : decode cX6_judgedBy 65 = .ok (.aload_n 0, 1) := by decide +kernel
theorem dX6_judgedBy_66 : decode cX6_judgedBy 66 = .ok (.aload_n 1, 1) := by decide +kernel
theorem dX6_judgedBy_67 : decode cX6_judgedBy 67 = .ok (.invokevirtual 73, 3) := by decide +kernel
theorem dX6_judgedBy_70 : decode cX6_judgedBy 70 = .ok (.iadd, 1) := by decide +kernel
theorem dX6_judgedBy_71 : decode cX6_judgedBy 71 = .ok (.imul, 1) := by decide +kernel
theorem dX6_judgedBy_72 : decode cX6_judgedBy 72 = .ok (.ireturn, 1) := by decide +kernel
theorem dX6_judgedBy_73 : decode cX6_judgedBy 73 = .ok (.iconst (-1), 1) := by decide +kernel
theorem dX6_judgedBy_74 : decode cX6_judgedBy 74 = .ok (.ireturn, 1) := by decide +kernel
set_option maxRecDepth 20000 in
theorem ggX6_daysOver_X7_allowedIn : GoodIn wsX6_daysOver wsX7_allowedIn := goodIn_r _ [10, 11, 12, 13, 14, 27, 28, 29, 30, 31, 32, 33] (by decide +kernel) (by decide +kernel)
set_option maxRecDepth 20000 in
theorem gX6_daysOver_X7_allowedIn : GoodIn wsX6_daysOver (wsV RX6 81 RX7 yX7_allowedIn wsX7_allowedIn) := goodIn_app (goodIn_of _ (by decide +kernel)) ggX6_daysOver_X7_allowedIn
theorem dX6_daysOver_0 : decode cX6_daysOver 0 = .ok (.iconst 0, 1) := by decide +kernel
theorem dX6_daysOver_1 : decode cX6_daysOver 1 = .ok (.istore_n 2, 1) := by decide +kernel
theorem dX6_daysOver_2 : decode cX6_daysOver 2 = .ok (.iconst 0, 1) := by decide +kernel
theorem dX6_daysOver_3 : decode cX6_daysOver 3 = .ok (.istore_n 3, 1) := by decide +kernel
theorem dX6_daysOver_4 : decode cX6_daysOver 4 = .ok (.iload_n 3, 1) := by decide +kernel
theorem dX6_daysOver_5 : decode cX6_daysOver 5 = .ok (.aload_n 0, 1) := by decide +kernel
theorem dX6_daysOver_6 : decode cX6_daysOver 6 = .ok (.getfield 24, 3) := by decide +kernel
theorem dX6_daysOver_9 : decode cX6_daysOver 9 = .ok (.arraylength, 1) := by decide +kernel
theorem dX6_daysOver_10 : decode cX6_daysOver 10 = .ok (.iconst 1, 1) := by decide +kernel
theorem dX6_daysOver_11 : decode cX6_daysOver 11 = .ok (.isub, 1) := by decide +kernel
theorem dX6_daysOver_12 : decode cX6_daysOver 12 = .ok (.if_icmp .ge 28, 3) := by decide +kernel
theorem dX6_daysOver_15 : decode cX6_daysOver 15 = .ok (.iload_n 2, 1) := by decide +kernel
theorem dX6_daysOver_16 : decode cX6_daysOver 16 = .ok (.iconst 0, 1) := by decide +kernel
theorem dX6_daysOver_17 : decode cX6_daysOver 17 = .ok (.aload_n 0, 1) := by decide +kernel
theorem dX6_daysOver_18 : decode cX6_daysOver 18 = .ok (.getfield 24, 3) := by decide +kernel
theorem dX6_daysOver_21 : decode cX6_daysOver 21 = .ok (.iload_n 3, 1) := by decide +kernel
theorem dX6_daysOver_22 : decode cX6_daysOver 22 = .ok (.iaload, 1) := by decide +kernel
theorem dX6_daysOver_23 : decode cX6_daysOver 23 = .ok (.aload_n 1, 1) := by decide +kernel
theorem dX6_daysOver_24 : decode cX6_daysOver 24 = .ok (.iload_n 3, 1) := by decide +kernel
theorem dX6_daysOver_25 : decode cX6_daysOver 25 = .ok (.invokevirtual 81, 3) := by decide +kernel
theorem dX6_daysOver_28 : decode cX6_daysOver 28 = .ok (.isub, 1) := by decide +kernel
theorem dX6_daysOver_29 : decode cX6_daysOver 29 = .ok (.invokestatic 84, 3) := by decide +kernel
theorem dX6_daysOver_32 : decode cX6_daysOver 32 = .ok (.iadd, 1) := by decide +kernel
theorem dX6_daysOver_33 : decode cX6_daysOver 33 = .ok (.istore_n 2, 1) := by decide +kernel
theorem dX6_daysOver_34 : decode cX6_daysOver 34 = .ok (.iinc 3 1, 3) := by decide +kernel
theorem dX6_daysOver_37 : decode cX6_daysOver 37 = .ok (.goto (-33), 3) := by decide +kernel
theorem dX6_daysOver_40 : decode cX6_daysOver 40 = .ok (.iload_n 2, 1) := by decide +kernel
theorem dX6_daysOver_41 : decode cX6_daysOver 41 = .ok (.ireturn, 1) := by decide +kernel
theorem dX6_bagsShort_0 : decode cX6_bagsShort 0 = .ok (.iconst 0, 1) := by decide +kernel
theorem dX6_bagsShort_1 : decode cX6_bagsShort 1 = .ok (.aload_n 0, 1) := by decide +kernel
theorem dX6_bagsShort_2 : decode cX6_bagsShort 2 = .ok (.getfield 37, 3) := by decide +kernel
theorem dX6_bagsShort_5 : decode cX6_bagsShort 5 = .ok (.aload_n 0, 1) := by decide +kernel
theorem dX6_bagsShort_6 : decode cX6_bagsShort 6 = .ok (.getfield 18, 3) := by decide +kernel
theorem dX6_bagsShort_9 : decode cX6_bagsShort 9 = .ok (.aload_n 1, 1) := by decide +kernel
theorem dX6_bagsShort_10 : decode cX6_bagsShort 10 = .ok (.getfield 90, 3) := by decide +kernel
theorem dX6_bagsShort_13 : decode cX6_bagsShort 13 = .ok (.imul, 1) := by decide +kernel
theorem dX6_bagsShort_14 : decode cX6_bagsShort 14 = .ok (.sipush 1000, 3) := by decide +kernel
theorem dX6_bagsShort_17 : decode cX6_bagsShort 17 = .ok (.idiv, 1) := by decide +kernel
theorem dX6_bagsShort_18 : decode cX6_bagsShort 18 = .ok (.isub, 1) := by decide +kernel
theorem dX6_bagsShort_19 : decode cX6_bagsShort 19 = .ok (.invokestatic 84, 3) := by decide +kernel
theorem dX6_bagsShort_22 : decode cX6_bagsShort 22 = .ok (.ireturn, 1) := by decide +kernel
theorem dX6_goodsOver_0 : decode cX6_goodsOver 0 = .ok (.iconst 0, 1) := by decide +kernel
theorem dX6_goodsOver_1 : decode cX6_goodsOver 1 = .ok (.aload_n 0, 1) := by decide +kernel
theorem dX6_goodsOver_2 : decode cX6_goodsOver 2 = .ok (.getfield 21, 3) := by decide +kernel
theorem dX6_goodsOver_5 : decode cX6_goodsOver 5 = .ok (.aload_n 1, 1) := by decide +kernel
theorem dX6_goodsOver_6 : decode cX6_goodsOver 6 = .ok (.getfield 93, 3) := by decide +kernel
theorem dX6_goodsOver_9 : decode cX6_goodsOver 9 = .ok (.aload_n 0, 1) := by decide +kernel
theorem dX6_goodsOver_10 : decode cX6_goodsOver 10 = .ok (.getfield 15, 3) := by decide +kernel
theorem dX6_goodsOver_13 : decode cX6_goodsOver 13 = .ok (.imul, 1) := by decide +kernel
theorem dX6_goodsOver_14 : decode cX6_goodsOver 14 = .ok (.isub, 1) := by decide +kernel
theorem dX6_goodsOver_15 : decode cX6_goodsOver 15 = .ok (.invokestatic 84, 3) := by decide +kernel
theorem dX6_goodsOver_18 : decode cX6_goodsOver 18 = .ok (.ireturn, 1) := by decide +kernel
theorem dX7_init_0 : decode cX7_init 0 = .ok (.aload_n 0, 1) := by decide +kernel
theorem dX7_init_1 : decode cX7_init 1 = .ok (.invokespecial 3, 3) := by decide +kernel
theorem dX7_init_4 : decode cX7_init 4 = .ok (.aload_n 0, 1) := by decide +kernel
theorem dX7_init_5 : decode cX7_init 5 = .ok (.iload_n 2, 1) := by decide +kernel
theorem dX7_init_6 : decode cX7_init 6 = .ok (.putfield 9, 3) := by decide +kernel
theorem dX7_init_9 : decode cX7_init 9 = .ok (.aload_n 0, 1) := by decide +kernel
theorem dX7_init_10 : decode cX7_init 10 = .ok (.iload_n 3, 1) := by decide +kernel
theorem dX7_init_11 : decode cX7_init 11 = .ok (.putfield 15, 3) := by decide +kernel
theorem dX7_init_14 : decode cX7_init 14 = .ok (.aload_n 0, 1) := by decide +kernel
theorem dX7_init_15 : decode cX7_init 15 = .ok (.iload_n 1, 1) := by decide +kernel
theorem dX7_init_16 : decode cX7_init 16 = .ok (.newarray .int, 2) := by decide +kernel
theorem dX7_init_18 : decode cX7_init 18 = .ok (.putfield 18, 3) := by decide +kernel
theorem dX7_init_21 : decode cX7_init 21 = .ok (.iconst 0, 1) := by decide +kernel
theorem dX7_init_22 : decode cX7_init 22 = .ok (.istore 4, 2) := by decide +kernel
theorem dX7_init_24 : decode cX7_init 24 = .ok (.iload 4, 2) := by decide +kernel
theorem dX7_init_26 : decode cX7_init 26 = .ok (.iload_n 1, 1) := by decide +kernel
theorem dX7_init_27 : decode cX7_init 27 = .ok (.if_icmp .ge 17, 3) := by decide +kernel
theorem dX7_init_30 : decode cX7_init 30 = .ok (.aload_n 0, 1) := by decide +kernel
theorem dX7_init_31 : decode cX7_init 31 = .ok (.getfield 18, 3) := by decide +kernel
theorem dX7_init_34 : decode cX7_init 34 = .ok (.iload 4, 2) := by decide +kernel
theorem dX7_init_36 : decode cX7_init 36 = .ok (.iconst 3, 1) := by decide +kernel
theorem dX7_init_37 : decode cX7_init 37 = .ok (.iastore, 1) := by decide +kernel
theorem dX7_init_38 : decode cX7_init 38 = .ok (.iinc 4 1, 3) := by decide +kernel
theorem dX7_init_41 : decode cX7_init 41 = .ok (.goto (-17), 3) := by decide +kernel
theorem dX7_init_44 : decode cX7_init 44 = .ok (.aload_n 0, 1) := by decide +kernel
theorem dX7_init_45 : decode cX7_init 45 = .ok (.iconst 2, 1) := by decide +kernel
theorem dX7_init_46 : decode cX7_init 46 = .ok (.putfield 22, 3) := by decide +kernel
theorem dX7_init_49 : decode cX7_init 49 = .ok (.aload_n 0, 1) := by decide +kernel
theorem dX7_init_50 : decode cX7_init 50 = .ok (.bipush 20, 2) := by decide +kernel
theorem dX7_init_52 : decode cX7_init 52 = .ok (.putfield 25, 3) := by decide +kernel
theorem dX7_init_55 : decode cX7_init 55 = .ok (.aload_n 0, 1) := by decide +kernel
theorem dX7_init_56 : decode cX7_init 56 = .ok (.iconst 2, 1) := by decide +kernel
theorem dX7_init_57 : decode cX7_init 57 = .ok (.putfield 28, 3) := by decide +kernel
theorem dX7_init_60 : decode cX7_init 60 = .ok (.aload_n 0, 1) := by decide +kernel
theorem dX7_init_61 : decode cX7_init 61 = .ok (.iconst 1, 1) := by decide +kernel
theorem dX7_init_62 : decode cX7_init 62 = .ok (.putfield 31, 3) := by decide +kernel
theorem dX7_init_65 : decode cX7_init 65 = .ok (.return_, 1) := by decide +kernel
set_option maxRecDepth 20000 in
theorem ggX7_allow_X9_isPlace : GoodIn wsX7_allow wsX9_isPlace := goodIn_r _ [4] (by decide +kernel) (by decide +kernel)
set_option maxRecDepth 20000 in
theorem gX7_allow_X9_isPlace_n34 : GoodIn wsX7_allow (wsX9_isPlace) := ggX7_allow_X9_isPlace
theorem dX7_allow_0 : decode cX7_allow 0 = .ok (.iload_n 1, 1) := by decide +kernel
theorem dX7_allow_1 : decode cX7_allow 1 = .ok (.aload_n 0, 1) := by decide +kernel
theorem dX7_allow_2 : decode cX7_allow 2 = .ok (.getfield 18, 3) := by decide +kernel
theorem dX7_allow_5 : decode cX7_allow 5 = .ok (.arraylength, 1) := by decide +kernel
theorem dX7_allow_6 : decode cX7_allow 6 = .ok (.invokestatic 34, 3) := by decide +kernel
theorem dX7_allow_9 : decode cX7_allow 9 = .ok (.ifCond .eq 10, 3) := by decide +kernel
theorem dX7_allow_12 : decode cX7_allow 12 = .ok (.aload_n 0, 1) := by decide +kernel
theorem dX7_allow_13 : decode cX7_allow 13 = .ok (.getfield 18, 3) := by decide +kernel
theorem dX7_allow_16 : decode cX7_allow 16 = .ok (.iload_n 1, 1) := by decide +kernel
theorem dX7_allow_17 : decode cX7_allow 17 = .ok (.iload_n 2, 1) := by decide +kernel
theorem dX7_allow_18 : decode cX7_allow 18 = .ok (.iastore, 1) := by decide +kernel
theorem dX7_allow_19 : decode cX7_allow 19 = .ok (.return_, 1) := by decide +kernel
set_option maxRecDepth 20000 in
theorem ggX7_allowedIn_X9_isPlace : GoodIn wsX7_allowedIn wsX9_isPlace := goodIn_r _ [4] (by decide +kernel) (by decide +kernel)
set_option maxRecDepth 20000 in
theorem gX7_allowedIn_X9_isPlace_n34 : GoodIn wsX7_allowedIn (wsX9_isPlace) := ggX7_allowedIn_X9_isPlace
theorem dX7_allowedIn_0 : decode cX7_allowedIn 0 = .ok (.iload_n 1, 1) := by decide +kernel
theorem dX7_allowedIn_1 : decode cX7_allowedIn 1 = .ok (.aload_n 0, 1) := by decide +kernel
theorem dX7_allowedIn_2 : decode cX7_allowedIn 2 = .ok (.getfield 18, 3) := by decide +kernel
theorem dX7_allowedIn_5 : decode cX7_allowedIn 5 = .ok (.arraylength, 1) := by decide +kernel
theorem dX7_allowedIn_6 : decode cX7_allowedIn 6 = .ok (.invokestatic 34, 3) := by decide +kernel
theorem dX7_allowedIn_9 : decode cX7_allowedIn 9 = .ok (.ifCond .eq 12, 3) := by decide +kernel
theorem dX7_allowedIn_12 : decode cX7_allowedIn 12 = .ok (.aload_n 0, 1) := by decide +kernel
theorem dX7_allowedIn_13 : decode cX7_allowedIn 13 = .ok (.getfield 18, 3) := by decide +kernel
theorem dX7_allowedIn_16 : decode cX7_allowedIn 16 = .ok (.iload_n 1, 1) := by decide +kernel
theorem dX7_allowedIn_17 : decode cX7_allowedIn 17 = .ok (.iaload, 1) := by decide +kernel
theorem dX7_allowedIn_18 : decode cX7_allowedIn 18 = .ok (.goto 4, 3) := by decide +kernel
theorem dX7_allowedIn_21 : decode cX7_allowedIn 21 = .ok (.iconst (-1), 1) := by decide +kernel
theorem dX7_allowedIn_22 : decode cX7_allowedIn 22 = .ok (.ireturn, 1) := by decide +kernel
set_option maxRecDepth 20000 in
theorem ggX7_tell_X7_allowedIn : GoodIn wsX7_tell wsX7_allowedIn := goodIn_r _ [10, 11, 12, 13, 14, 15, 16, 17, 18, 19, 20, 21] (by decide +kernel) (by decide +kernel)
set_option maxRecDepth 20000 in
theorem gX7_tell_X7_allowedIn : GoodIn wsX7_tell (wsV RX7 38 RX7 yX7_allowedIn wsX7_allowedIn) := goodIn_app (goodIn_of _ (by decide +kernel)) ggX7_tell_X7_allowedIn
theorem dX7_tell_0 : decode cX7_tell 0 = .ok (.iload_n 1, 1) := by decide +kernel
theorem dX7_tell_1 : decode cX7_tell 1 = .ok (.tableswitch 60 0 4 #[35, 40, 45, 50, 55], 35) := by decide +kernel
theorem dX7_tell_36 : decode cX7_tell 36 = .ok (.aload_n 0, 1) := by decide +kernel
theorem dX7_tell_37 : decode cX7_tell 37 = .ok (.getfield 22, 3) := by decide +kernel
theorem dX7_tell_40 : decode cX7_tell 40 = .ok (.ireturn, 1) := by decide +kernel
theorem dX7_tell_41 : decode cX7_tell 41 = .ok (.aload_n 0, 1) := by decide +kernel
theorem dX7_tell_42 : decode cX7_tell 42 = .ok (.getfield 25, 3) := by decide +kernel
theorem dX7_tell_45 : decode cX7_tell 45 = .ok (.ireturn, 1) := by decide +kernel
theorem dX7_tell_46 : decode cX7_tell 46 = .ok (.aload_n 0, 1) := by decide +kernel
theorem dX7_tell_47 : decode cX7_tell 47 = .ok (.getfield 28, 3) := by decide +kernel
theorem dX7_tell_50 : decode cX7_tell 50 = .ok (.ireturn, 1) := by decide +kernel
theorem dX7_tell_51 : decode cX7_tell 51 = .ok (.aload_n 0, 1) := by decide +kernel
theorem dX7_tell_52 : decode cX7_tell 52 = .ok (.getfield 31, 3) := by decide +kernel
theorem dX7_tell_55 : decode cX7_tell 55 = .ok (.ireturn, 1) := by decide +kernel
theorem dX7_tell_56 : decode cX7_tell 56 = .ok (.aload_n 0, 1) := by decide +kernel
theorem dX7_tell_57 : decode cX7_tell 57 = .ok (.getfield 9, 3) := by decide +kernel
theorem dX7_tell_60 : decode cX7_tell 60 = .ok (.ireturn, 1) := by decide +kernel
theorem dX7_tell_61 : decode cX7_tell 61 = .ok (.aload_n 0, 1) := by decide +kernel
theorem dX7_tell_62 : decode cX7_tell 62 = .ok (.iload_n 1, 1) := by decide +kernel
theorem dX7_tell_63 : decode cX7_tell 63 = .ok (.bipush 10, 2) := by decide +kernel
theorem dX7_tell_65 : decode cX7_tell 65 = .ok (.isub, 1) := by decide +kernel
theorem dX7_tell_66 : decode cX7_tell 66 = .ok (.invokevirtual 38, 3) := by decide +kernel
theorem dX7_tell_69 : decode cX7_tell 69 = .ok (.ireturn, 1) := by decide +kernel
theorem dX8_init_0 : decode cX8_init 0 = .ok (.aload_n 0, 1) := by decide +kernel
theorem dX8_init_1 : decode cX8_init 1 = .ok (.invokespecial 3, 3) := by decide +kernel
theorem dX8_init_4 : decode cX8_init 4 = .ok (.aload_n 0, 1) := by decide +kernel
theorem dX8_init_5 : decode cX8_init 5 = .ok (.sipush 400, 3) := by decide +kernel
theorem dX8_init_8 : decode cX8_init 8 = .ok (.newarray .byte, 2) := by decide +kernel
theorem dX8_init_10 : decode cX8_init 10 = .ok (.putfield 11, 3) := by decide +kernel
theorem dX8_init_13 : decode cX8_init 13 = .ok (.aload_n 0, 1) := by decide +kernel
theorem dX8_init_14 : decode cX8_init 14 = .ok (.iconst 0, 1) := by decide +kernel
theorem dX8_init_15 : decode cX8_init 15 = .ok (.putfield 15, 3) := by decide +kernel
theorem dX8_init_18 : decode cX8_init 18 = .ok (.return_, 1) := by decide +kernel
theorem dX8_hasRoom_0 : decode cX8_hasRoom 0 = .ok (.aload_n 0, 1) := by decide +kernel
theorem dX8_hasRoom_1 : decode cX8_hasRoom 1 = .ok (.getfield 15, 3) := by decide +kernel
theorem dX8_hasRoom_4 : decode cX8_hasRoom 4 = .ok (.bipush 20, 2) := by decide +kernel
theorem dX8_hasRoom_6 : decode cX8_hasRoom 6 = .ok (.iadd, 1) := by decide +kernel
theorem dX8_hasRoom_7 : decode cX8_hasRoom 7 = .ok (.sipush 400, 3) := by decide +kernel
theorem dX8_hasRoom_10 : decode cX8_hasRoom 10 = .ok (.if_icmp .gt 7, 3) := by decide +kernel
theorem dX8_hasRoom_13 : decode cX8_hasRoom 13 = .ok (.iconst 1, 1) := by decide +kernel
theorem dX8_hasRoom_14 : decode cX8_hasRoom 14 = .ok (.goto 4, 3) := by decide +kernel
theorem dX8_hasRoom_17 : decode cX8_hasRoom 17 = .ok (.iconst 0, 1) := by decide +kernel
theorem dX8_hasRoom_18 : decode cX8_hasRoom 18 = .ok (.ireturn, 1) := by decide +kernel
theorem dX8_append_0 : decode cX8_append 0 = .ok (.bipush 24, 2) := by decide +kernel
theorem dX8_append_2 : decode cX8_append 2 = .ok (.istore_n 2, 1) := by decide +kernel
theorem dX8_append_3 : decode cX8_append 3 = .ok (.iload_n 2, 1) := by decide +kernel
theorem dX8_append_4 : decode cX8_append 4 = .ok (.ifCond .lt 42, 3) := by decide +kernel
theorem dX8_append_7 : decode cX8_append 7 = .ok (.aload_n 0, 1) := by decide +kernel
theorem dX8_append_8 : decode cX8_append 8 = .ok (.getfield 15, 3) := by decide +kernel
theorem dX8_append_11 : decode cX8_append 11 = .ok (.sipush 400, 3) := by decide +kernel
theorem dX8_append_14 : decode cX8_append 14 = .ok (.if_icmp .ge 32, 3) := by decide +kernel
theorem dX8_append_17 : decode cX8_append 17 = .ok (.aload_n 0, 1) := by decide +kernel
theorem dX8_append_18 : decode cX8_append 18 = .ok (.getfield 11, 3) := by decide +kernel
theorem dX8_append_21 : decode cX8_append 21 = .ok (.aload_n 0, 1) := by decide +kernel
theorem dX8_append_22 : decode cX8_append 22 = .ok (.getfield 15, 3) := by decide +kernel
theorem dX8_append_25 : decode cX8_append 25 = .ok (.iload_n 1, 1) := by decide +kernel
theorem dX8_append_26 : decode cX8_append 26 = .ok (.iload_n 2, 1) := by decide +kernel
theorem dX8_append_27 : decode cX8_append 27 = .ok (.ishr, 1) := by decide +kernel
theorem dX8_append_28 : decode cX8_append 28 = .ok (.i2b, 1) := by decide +kernel
theorem dX8_append_29 : decode cX8_append 29 = .ok (.bastore, 1) := by decide +kernel
theorem dX8_append_30 : decode cX8_append 30 = .ok (.aload_n 0, 1) := by decide +kernel
theorem dX8_append_31 : decode cX8_append 31 = .ok (.dup, 1) := by decide +kernel
theorem dX8_append_32 : decode cX8_append 32 = .ok (.getfield 15, 3) := by decide +kernel
theorem dX8_append_35 : decode cX8_append 35 = .ok (.iconst 1, 1) := by decide +kernel
theorem dX8_append_36 : decode cX8_append 36 = .ok (.iadd, 1) := by decide +kernel
theorem dX8_append_37 : decode cX8_append 37 = .ok (.putfield 15, 3) := by decide +kernel
theorem dX8_append_40 : decode cX8_append 40 = .ok (.iinc 2 (-8), 3) := by decide +kernel
theorem dX8_append_43 : decode cX8_append 43 = .ok (.goto (-40), 3) := by decide +kernel
theorem dX8_append_46 : decode cX8_append 46 = .ok (.return_, 1) := by decide +kernel
theorem dX8_at_0 : decode cX8_at 0 = .ok (.iload_n 1, 1) := by decide +kernel
theorem dX8_at_1 : decode cX8_at 1 = .ok (.ifCond .lt 20, 3) := by decide +kernel
theorem dX8_at_4 : decode cX8_at 4 = .ok (.iload_n 1, 1) := by decide +kernel
theorem dX8_at_5 : decode cX8_at 5 = .ok (.aload_n 0, 1) := by decide +kernel
theorem dX8_at_6 : decode cX8_at 6 = .ok (.getfield 15, 3) := by decide +kernel
theorem dX8_at_9 : decode cX8_at 9 = .ok (.if_icmp .ge 12, 3) := by decide +kernel
theorem dX8_at_12 : decode cX8_at 12 = .ok (.aload_n 0, 1) := by decide +kernel
theorem dX8_at_13 : decode cX8_at 13 = .ok (.getfield 11, 3) := by decide +kernel
theorem dX8_at_16 : decode cX8_at 16 = .ok (.iload_n 1, 1) := by decide +kernel
theorem dX8_at_17 : decode cX8_at 17 = .ok (.baload, 1) := by decide +kernel
theorem dX8_at_18 : decode cX8_at 18 = .ok (.goto 4, 3) := by decide +kernel
theorem dX8_at_21 : decode cX8_at 21 = .ok (.iconst (-1), 1) := by decide +kernel
theorem dX8_at_22 : decode cX8_at 22 = .ok (.ireturn, 1) := by decide +kernel
set_option maxRecDepth 20000 in
theorem ggX9_init_X0_init : GoodIn wsX9_init wsX0_init := goodIn_r _ [43, 44, 2, 3, 45, 46, 47, 48, 49, 50, 51, 52, 53, 54, 118, 119, 120, 121, 122, 123, 124, 125, 126] (by decide +kernel) (by decide +kernel)
set_option maxRecDepth 20000 in
theorem gX9_init_X0_init : GoodIn wsX9_init (wsX0_init) := ggX9_init_X0_init
set_option maxRecDepth 20000 in
theorem ggX9_init_X3_init : GoodIn wsX9_init wsX3_init := goodIn_r _ [57, 58, 2, 3, 59, 60, 46, 61, 62, 136, 137, 138] (by decide +kernel) (by decide +kernel)
set_option maxRecDepth 20000 in
theorem gX9_init_X3_init : GoodIn wsX9_init (wsX3_init) := ggX9_init_X3_init
set_option maxRecDepth 20000 in
theorem ggX9_init_X8_init : GoodIn wsX9_init wsX8_init := goodIn_r _ [65, 66, 2, 3, 67, 68, 69, 139, 140] (by decide +kernel) (by decide +kernel)
set_option maxRecDepth 20000 in
theorem gX9_init_X8_init : GoodIn wsX9_init (wsX8_init) := ggX9_init_X8_init
set_option maxRecDepth 20000 in
theorem ggX9_init_X4_init : GoodIn wsX9_init wsX4_init := goodIn_r _ [72, 73, 2, 3, 74, 75, 76, 77, 78, 141, 142, 143, 144, 145] (by decide +kernel) (by decide +kernel)
set_option maxRecDepth 20000 in
theorem gX9_init_X4_init : GoodIn wsX9_init (wsX4_init) := ggX9_init_X4_init
set_option maxRecDepth 20000 in
theorem ggX9_init_X1_init : GoodIn wsX9_init wsX1_init := goodIn_r _ [81, 82, 2, 3, 83, 84, 85, 86, 87, 88, 89, 90, 91, 92, 93, 94, 46, 95, 96, 97, 98, 99, 146, 147, 148, 159, 160, 161, 162, 163, 164, 165] (by decide +kernel) (by decide +kernel)
set_option maxRecDepth 20000 in
theorem gX9_init_X1_init : GoodIn wsX9_init (wsX1_init) := ggX9_init_X1_init
set_option maxRecDepth 20000 in
theorem ggX9_init_X2_init : GoodIn wsX9_init wsX2_init := goodIn_r _ [102, 103, 2, 3, 46, 104, 105, 106, 107, 149, 150, 151, 152] (by decide +kernel) (by decide +kernel)
set_option maxRecDepth 20000 in
theorem gX9_init_X2_init : GoodIn wsX9_init (wsX2_init) := ggX9_init_X2_init
set_option maxRecDepth 20000 in
theorem ggX9_init_X5_init : GoodIn wsX9_init wsX5_init := goodIn_r _ [110, 111, 2, 3, 46, 112, 113, 114, 115, 116, 117, 153, 154, 155, 156, 157, 158] (by decide +kernel) (by decide +kernel)
set_option maxRecDepth 20000 in
theorem gX9_init_X5_init : GoodIn wsX9_init (wsX5_init) := ggX9_init_X5_init
