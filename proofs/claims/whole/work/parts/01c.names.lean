theorem dX9_init_0 : decode cX9_init 0 = .ok (.aload_n 0, 1) := by decide +kernel
theorem dX9_init_1 : decode cX9_init 1 = .ok (.invokespecial 1, 3) := by decide +kernel
theorem dX9_init_4 : decode cX9_init 4 = .ok (.iconst 3, 1) := by decide +kernel
theorem dX9_init_5 : decode cX9_init 5 = .ok (.bipush 12, 2) := by decide +kernel
theorem dX9_init_7 : decode cX9_init 7 = .ok (.iload_n 1, 1) := by decide +kernel
theorem dX9_init_8 : decode cX9_init 8 = .ok (.invokestatic 9, 3) := by decide +kernel
theorem dX9_init_11 : decode cX9_init 11 = .ok (.invokestatic 15, 3) := by decide +kernel
theorem dX9_init_14 : decode cX9_init 14 = .ok (.istore_n 2, 1) := by decide +kernel
theorem dX9_init_15 : decode cX9_init 15 = .ok (.aload_n 0, 1) := by decide +kernel
theorem dX9_init_16 : decode cX9_init 16 = .ok (.new 18, 3) := by decide +kernel
theorem dX9_init_19 : decode cX9_init 19 = .ok (.dup, 1) := by decide +kernel
theorem dX9_init_20 : decode cX9_init 20 = .ok (.iload_n 2, 1) := by decide +kernel
theorem dX9_init_21 : decode cX9_init 21 = .ok (.invokespecial 20, 3) := by decide +kernel
theorem dX9_init_24 : decode cX9_init 24 = .ok (.putfield 23, 3) := by decide +kernel
theorem dX9_init_27 : decode cX9_init 27 = .ok (.aload_n 0, 1) := by decide +kernel
theorem dX9_init_28 : decode cX9_init 28 = .ok (.new 27, 3) := by decide +kernel
theorem dX9_init_31 : decode cX9_init 31 = .ok (.dup, 1) := by decide +kernel
theorem dX9_init_32 : decode cX9_init 32 = .ok (.invokespecial 29, 3) := by decide +kernel
theorem dX9_init_35 : decode cX9_init 35 = .ok (.putfield 30, 3) := by decide +kernel
theorem dX9_init_38 : decode cX9_init 38 = .ok (.aload_n 0, 1) := by decide +kernel
theorem dX9_init_39 : decode cX9_init 39 = .ok (.new 34, 3) := by decide +kernel
theorem dX9_init_42 : decode cX9_init 42 = .ok (.dup, 1) := by decide +kernel
theorem dX9_init_43 : decode cX9_init 43 = .ok (.invokespecial 36, 3) := by decide +kernel
theorem dX9_init_46 : decode cX9_init 46 = .ok (.putfield 37, 3) := by decide +kernel
theorem dX9_init_49 : decode cX9_init 49 = .ok (.aload_n 0, 1) := by decide +kernel
theorem dX9_init_50 : decode cX9_init 50 = .ok (.new 41, 3) := by decide +kernel
theorem dX9_init_53 : decode cX9_init 53 = .ok (.dup, 1) := by decide +kernel
theorem dX9_init_54 : decode cX9_init 54 = .ok (.aload_n 0, 1) := by decide +kernel
theorem dX9_init_55 : decode cX9_init 55 = .ok (.getfield 37, 3) := by decide +kernel
theorem dX9_init_58 : decode cX9_init 58 = .ok (.invokespecial 43, 3) := by decide +kernel
theorem dX9_init_61 : decode cX9_init 61 = .ok (.putfield 46, 3) := by decide +kernel
theorem dX9_init_64 : decode cX9_init 64 = .ok (.aload_n 0, 1) := by decide +kernel
theorem dX9_init_65 : decode cX9_init 65 = .ok (.new 50, 3) := by decide +kernel
theorem dX9_init_68 : decode cX9_init 68 = .ok (.dup, 1) := by decide +kernel
theorem dX9_init_69 : decode cX9_init 69 = .ok (.iload_n 2, 1) := by decide +kernel
theorem dX9_init_70 : decode cX9_init 70 = .ok (.invokespecial 52, 3) := by decide +kernel
theorem dX9_init_73 : decode cX9_init 73 = .ok (.putfield 53, 3) := by decide +kernel
theorem dX9_init_76 : decode cX9_init 76 = .ok (.aload_n 0, 1) := by decide +kernel
theorem dX9_init_77 : decode cX9_init 77 = .ok (.new 57, 3) := by decide +kernel
theorem dX9_init_80 : decode cX9_init 80 = .ok (.dup, 1) := by decide +kernel
theorem dX9_init_81 : decode cX9_init 81 = .ok (.invokespecial 59, 3) := by decide +kernel
theorem dX9_init_84 : decode cX9_init 84 = .ok (.putfield 60, 3) := by decide +kernel
theorem dX9_init_87 : decode cX9_init 87 = .ok (.aload_n 0, 1) := by decide +kernel
theorem dX9_init_88 : decode cX9_init 88 = .ok (.new 64, 3) := by decide +kernel
theorem dX9_init_91 : decode cX9_init 91 = .ok (.dup, 1) := by decide +kernel
theorem dX9_init_92 : decode cX9_init 92 = .ok (.invokespecial 66, 3) := by decide +kernel
theorem dX9_init_95 : decode cX9_init 95 = .ok (.putfield 67, 3) := by decide +kernel
theorem dX9_init_98 : decode cX9_init 98 = .ok (.aload_n 0, 1) := by decide +kernel
theorem dX9_init_99 : decode cX9_init 99 = .ok (.iconst 0, 1) := by decide +kernel
theorem dX9_init_100 : decode cX9_init 100 = .ok (.putfield 71, 3) := by decide +kernel
theorem dX9_init_103 : decode cX9_init 103 = .ok (.aload_n 0, 1) := by decide +kernel
theorem dX9_init_104 : decode cX9_init 104 = .ok (.iconst (-1), 1) := by decide +kernel
theorem dX9_init_105 : decode cX9_init 105 = .ok (.putfield 75, 3) := by decide +kernel
theorem dX9_init_108 : decode cX9_init 108 = .ok (.return_, 1) := by decide +kernel
set_option maxRecDepth 20000 in
theorem ggX9_water_X0_hasReach : GoodIn wsX9_water wsX0_hasReach := goodIn_r _ [7, 8, 9, 10, 11, 24, 25, 26, 27, 28, 29, 30, 31, 32] (by decide +kernel) (by decide +kernel)
set_option maxRecDepth 20000 in
theorem gX9_water_X0_hasReach : GoodIn wsX9_water (wsV RX9 78 RX0 yX0_hasReach wsX0_hasReach) := goodIn_app (goodIn_of _ (by decide +kernel)) ggX9_water_X0_hasReach
set_option maxRecDepth 20000 in
theorem ggX9_water_X9_isWithin : GoodIn wsX9_water wsX9_isWithin := goodIn_r _ [14] (by decide +kernel) (by decide +kernel)
set_option maxRecDepth 20000 in
theorem gX9_water_X9_isWithin : GoodIn wsX9_water (va_wsS RX9 82 yX9_isWithin wsX9_isWithin) := goodIn_app (goodIn_of _ (by decide +kernel)) ggX9_water_X9_isWithin
theorem dX9_water_0 : decode cX9_water 0 = .ok (.aload_n 0, 1) := by decide +kernel
theorem dX9_water_1 : decode cX9_water 1 = .ok (.getfield 23, 3) := by decide +kernel
theorem dX9_water_4 : decode cX9_water 4 = .ok (.iload_n 1, 1) := by decide +kernel
theorem dX9_water_5 : decode cX9_water 5 = .ok (.invokevirtual 78, 3) := by decide +kernel
theorem dX9_water_8 : decode cX9_water 8 = .ok (.ifCond .eq 14, 3) := by decide +kernel
theorem dX9_water_11 : decode cX9_water 11 = .ok (.iload_n 2, 1) := by decide +kernel
theorem dX9_water_12 : decode cX9_water 12 = .ok (.iconst 0, 1) := by decide +kernel
theorem dX9_water_13 : decode cX9_water 13 = .ok (.sipush 1000, 3) := by decide +kernel
theorem dX9_water_16 : decode cX9_water 16 = .ok (.invokestatic 82, 3) := by decide +kernel
theorem dX9_water_19 : decode cX9_water 19 = .ok (.ifCond .ne 5, 3) := by decide +kernel
theorem dX9_water_22 : decode cX9_water 22 = .ok (.iconst 0, 1) := by decide +kernel
theorem dX9_water_23 : decode cX9_water 23 = .ok (.ireturn, 1) := by decide +kernel
theorem dX9_water_24 : decode cX9_water 24 = .ok (.aload_n 0, 1) := by decide +kernel
theorem dX9_water_25 : decode cX9_water 25 = .ok (.getfield 23, 3) := by decide +kernel
theorem dX9_water_28 : decode cX9_water 28 = .ok (.getfield 86, 3) := by decide +kernel
theorem dX9_water_31 : decode cX9_water 31 = .ok (.iload_n 1, 1) := by decide +kernel
theorem dX9_water_32 : decode cX9_water 32 = .ok (.iload_n 2, 1) := by decide +kernel
theorem dX9_water_33 : decode cX9_water 33 = .ok (.iastore, 1) := by decide +kernel
theorem dX9_water_34 : decode cX9_water 34 = .ok (.iconst 1, 1) := by decide +kernel
theorem dX9_water_35 : decode cX9_water 35 = .ok (.ireturn, 1) := by decide +kernel
set_option maxRecDepth 20000 in
theorem ggX9_lock_X0_hasLock : GoodIn wsX9_lock wsX0_hasLock := goodIn_r _ [7, 8, 9, 10, 11, 24, 25, 26, 27, 28, 29, 30, 31, 32] (by decide +kernel) (by decide +kernel)
set_option maxRecDepth 20000 in
theorem gX9_lock_X0_hasLock : GoodIn wsX9_lock (wsV RX9 90 RX0 yX0_hasLock wsX0_hasLock) := goodIn_app (goodIn_of _ (by decide +kernel)) ggX9_lock_X0_hasLock
set_option maxRecDepth 20000 in
theorem ggX9_lock_X9_isWithin : GoodIn wsX9_lock wsX9_isWithin := goodIn_r _ [14] (by decide +kernel) (by decide +kernel)
set_option maxRecDepth 20000 in
theorem gX9_lock_X9_isWithin : GoodIn wsX9_lock (va_wsS RX9 82 yX9_isWithin wsX9_isWithin) := goodIn_app (goodIn_of _ (by decide +kernel)) ggX9_lock_X9_isWithin
theorem dX9_lock_0 : decode cX9_lock 0 = .ok (.aload_n 0, 1) := by decide +kernel
theorem dX9_lock_1 : decode cX9_lock 1 = .ok (.getfield 23, 3) := by decide +kernel
theorem dX9_lock_4 : decode cX9_lock 4 = .ok (.iload_n 1, 1) := by decide +kernel
theorem dX9_lock_5 : decode cX9_lock 5 = .ok (.invokevirtual 90, 3) := by decide +kernel
theorem dX9_lock_8 : decode cX9_lock 8 = .ok (.ifCond .eq 13, 3) := by decide +kernel
theorem dX9_lock_11 : decode cX9_lock 11 = .ok (.iload_n 2, 1) := by decide +kernel
theorem dX9_lock_12 : decode cX9_lock 12 = .ok (.iconst 1, 1) := by decide +kernel
theorem dX9_lock_13 : decode cX9_lock 13 = .ok (.bipush 60, 2) := by decide +kernel
theorem dX9_lock_15 : decode cX9_lock 15 = .ok (.invokestatic 82, 3) := by decide +kernel
theorem dX9_lock_18 : decode cX9_lock 18 = .ok (.ifCond .ne 5, 3) := by decide +kernel
theorem dX9_lock_21 : decode cX9_lock 21 = .ok (.iconst 0, 1) := by decide +kernel
theorem dX9_lock_22 : decode cX9_lock 22 = .ok (.ireturn, 1) := by decide +kernel
theorem dX9_lock_23 : decode cX9_lock 23 = .ok (.aload_n 0, 1) := by decide +kernel
theorem dX9_lock_24 : decode cX9_lock 24 = .ok (.getfield 23, 3) := by decide +kernel
theorem dX9_lock_27 : decode cX9_lock 27 = .ok (.getfield 93, 3) := by decide +kernel
theorem dX9_lock_30 : decode cX9_lock 30 = .ok (.iload_n 1, 1) := by decide +kernel
theorem dX9_lock_31 : decode cX9_lock 31 = .ok (.iload_n 2, 1) := by decide +kernel
theorem dX9_lock_32 : decode cX9_lock 32 = .ok (.iastore, 1) := by decide +kernel
theorem dX9_lock_33 : decode cX9_lock 33 = .ok (.iconst 1, 1) := by decide +kernel
theorem dX9_lock_34 : decode cX9_lock 34 = .ok (.ireturn, 1) := by decide +kernel
set_option maxRecDepth 20000 in
theorem ggX9_lake_X0_hasReach : GoodIn wsX9_lake wsX0_hasReach := goodIn_r _ [6, 7, 8, 9, 10, 30, 31, 32, 33, 34, 35, 36, 37, 38] (by decide +kernel) (by decide +kernel)
set_option maxRecDepth 20000 in
theorem gX9_lake_X0_hasReach : GoodIn wsX9_lake (wsV RX9 78 RX0 yX0_hasReach wsX0_hasReach) := goodIn_app (goodIn_of _ (by decide +kernel)) ggX9_lake_X0_hasReach
set_option maxRecDepth 20000 in
theorem ggX9_lake_X9_isWithin : GoodIn wsX9_lake wsX9_isWithin := goodIn_r _ [13] (by decide +kernel) (by decide +kernel)
set_option maxRecDepth 20000 in
theorem gX9_lake_X9_isWithin : GoodIn wsX9_lake (va_wsS RX9 82 yX9_isWithin wsX9_isWithin) := goodIn_app (goodIn_of _ (by decide +kernel)) ggX9_lake_X9_isWithin
set_option maxRecDepth 20000 in
theorem ggX9_lake_X0_addLake : GoodIn wsX9_lake wsX0_addLake := goodIn_r _ [17, 18, 19, 20, 30, 31, 32, 33, 34, 35, 36, 37, 38] (by decide +kernel) (by decide +kernel)
set_option maxRecDepth 20000 in
theorem gX9_lake_X0_addLake : GoodIn wsX9_lake (wsV RX9 96 RX0 yX0_addLake wsX0_addLake) := goodIn_app (goodIn_of _ (by decide +kernel)) ggX9_lake_X0_addLake
theorem dX9_lake_0 : decode cX9_lake 0 = .ok (.aload_n 0, 1) := by decide +kernel
theorem dX9_lake_1 : decode cX9_lake 1 = .ok (.getfield 23, 3) := by decide +kernel
theorem dX9_lake_4 : decode cX9_lake 4 = .ok (.iload_n 1, 1) := by decide +kernel
theorem dX9_lake_5 : decode cX9_lake 5 = .ok (.invokevirtual 78, 3) := by decide +kernel
theorem dX9_lake_8 : decode cX9_lake 8 = .ok (.ifCond .eq 14, 3) := by decide +kernel
theorem dX9_lake_11 : decode cX9_lake 11 = .ok (.iload_n 2, 1) := by decide +kernel
theorem dX9_lake_12 : decode cX9_lake 12 = .ok (.iconst 0, 1) := by decide +kernel
theorem dX9_lake_13 : decode cX9_lake 13 = .ok (.sipush 5000, 3) := by decide +kernel
theorem dX9_lake_16 : decode cX9_lake 16 = .ok (.invokestatic 82, 3) := by decide +kernel
theorem dX9_lake_19 : decode cX9_lake 19 = .ok (.ifCond .ne 5, 3) := by decide +kernel
theorem dX9_lake_22 : decode cX9_lake 22 = .ok (.iconst (-1), 1) := by decide +kernel
theorem dX9_lake_23 : decode cX9_lake 23 = .ok (.ireturn, 1) := by decide +kernel
theorem dX9_lake_24 : decode cX9_lake 24 = .ok (.aload_n 0, 1) := by decide +kernel
theorem dX9_lake_25 : decode cX9_lake 25 = .ok (.getfield 23, 3) := by decide +kernel
theorem dX9_lake_28 : decode cX9_lake 28 = .ok (.iload_n 1, 1) := by decide +kernel
theorem dX9_lake_29 : decode cX9_lake 29 = .ok (.iload_n 2, 1) := by decide +kernel
theorem dX9_lake_30 : decode cX9_lake 30 = .ok (.invokevirtual 96, 3) := by decide +kernel
theorem dX9_lake_33 : decode cX9_lake 33 = .ok (.ireturn, 1) := by decide +kernel
set_option maxRecDepth 20000 in
theorem ggX9_give_X0_hasLake : GoodIn wsX9_give wsX0_hasLake := goodIn_r _ [7, 8, 9, 10, 11, 24, 25, 26, 27, 28, 29, 30, 31, 32] (by decide +kernel) (by decide +kernel)
set_option maxRecDepth 20000 in
theorem gX9_give_X0_hasLake : GoodIn wsX9_give (wsV RX9 99 RX0 yX0_hasLake wsX0_hasLake) := goodIn_app (goodIn_of _ (by decide +kernel)) ggX9_give_X0_hasLake
set_option maxRecDepth 20000 in
theorem ggX9_give_X9_isWithin : GoodIn wsX9_give wsX9_isWithin := goodIn_r _ [14] (by decide +kernel) (by decide +kernel)
set_option maxRecDepth 20000 in
theorem gX9_give_X9_isWithin : GoodIn wsX9_give (va_wsS RX9 82 yX9_isWithin wsX9_isWithin) := goodIn_app (goodIn_of _ (by decide +kernel)) ggX9_give_X9_isWithin
theorem dX9_give_0 : decode cX9_give 0 = .ok (.aload_n 0, 1) := by decide +kernel
theorem dX9_give_1 : decode cX9_give 1 = .ok (.getfield 23, 3) := by decide +kernel
theorem dX9_give_4 : decode cX9_give 4 = .ok (.iload_n 1, 1) := by decide +kernel
theorem dX9_give_5 : decode cX9_give 5 = .ok (.invokevirtual 99, 3) := by decide +kernel
theorem dX9_give_8 : decode cX9_give 8 = .ok (.ifCond .eq 13, 3) := by decide +kernel
theorem dX9_give_11 : decode cX9_give 11 = .ok (.iload_n 2, 1) := by decide +kernel
theorem dX9_give_12 : decode cX9_give 12 = .ok (.iconst 0, 1) := by decide +kernel
theorem dX9_give_13 : decode cX9_give 13 = .ok (.bipush 100, 2) := by decide +kernel
theorem dX9_give_15 : decode cX9_give 15 = .ok (.invokestatic 82, 3) := by decide +kernel
theorem dX9_give_18 : decode cX9_give 18 = .ok (.ifCond .ne 5, 3) := by decide +kernel
theorem dX9_give_21 : decode cX9_give 21 = .ok (.iconst 0, 1) := by decide +kernel
theorem dX9_give_22 : decode cX9_give 22 = .ok (.ireturn, 1) := by decide +kernel
theorem dX9_give_23 : decode cX9_give 23 = .ok (.aload_n 0, 1) := by decide +kernel
theorem dX9_give_24 : decode cX9_give 24 = .ok (.getfield 23, 3) := by decide +kernel
theorem dX9_give_27 : decode cX9_give 27 = .ok (.getfield 102, 3) := by decide +kernel
theorem dX9_give_30 : decode cX9_give 30 = .ok (.iload_n 1, 1) := by decide +kernel
theorem dX9_give_31 : decode cX9_give 31 = .ok (.iload_n 2, 1) := by decide +kernel
theorem dX9_give_32 : decode cX9_give 32 = .ok (.iastore, 1) := by decide +kernel
theorem dX9_give_33 : decode cX9_give 33 = .ok (.iconst 1, 1) := by decide +kernel
theorem dX9_give_34 : decode cX9_give 34 = .ok (.ireturn, 1) := by decide +kernel
set_option maxRecDepth 20000 in
theorem ggX9_ice_X9_isDay : GoodIn wsX9_ice wsX9_isDay := goodIn_r _ [7, 8, 9, 6, 10] (by decide +kernel) (by decide +kernel)
set_option maxRecDepth 20000 in
theorem gX9_ice_X9_isDay : GoodIn wsX9_ice (va_wsS RX9 105 yX9_isDay wsX9_isDay) := goodIn_app (goodIn_of _ (by decide +kernel)) ggX9_ice_X9_isDay
set_option maxRecDepth 20000 in
theorem ggX9_ice_X0_hasReach : GoodIn wsX9_ice wsX0_hasReach := goodIn_r _ [15, 16, 17, 6, 18, 28, 29, 30, 31, 32, 33, 34, 35, 36] (by decide +kernel) (by decide +kernel)
set_option maxRecDepth 20000 in
theorem gX9_ice_X0_hasReach : GoodIn wsX9_ice (wsV RX9 78 RX0 yX0_hasReach wsX0_hasReach) := goodIn_app (goodIn_of _ (by decide +kernel)) ggX9_ice_X0_hasReach
theorem dX9_ice_0 : decode cX9_ice 0 = .ok (.iload_n 1, 1) := by decide +kernel
theorem dX9_ice_1 : decode cX9_ice 1 = .ok (.invokestatic 105, 3) := by decide +kernel
theorem dX9_ice_4 : decode cX9_ice 4 = .ok (.ifCond .eq 14, 3) := by decide +kernel
theorem dX9_ice_7 : decode cX9_ice 7 = .ok (.aload_n 0, 1) := by decide +kernel
theorem dX9_ice_8 : decode cX9_ice 8 = .ok (.getfield 23, 3) := by decide +kernel
theorem dX9_ice_11 : decode cX9_ice 11 = .ok (.iload_n 2, 1) := by decide +kernel
theorem dX9_ice_12 : decode cX9_ice 12 = .ok (.invokevirtual 78, 3) := by decide +kernel
theorem dX9_ice_15 : decode cX9_ice 15 = .ok (.ifCond .ne 5, 3) := by decide +kernel
theorem dX9_ice_18 : decode cX9_ice 18 = .ok (.iconst 0, 1) := by decide +kernel
theorem dX9_ice_19 : decode cX9_ice 19 = .ok (.ireturn, 1) := by decide +kernel
theorem dX9_ice_20 : decode cX9_ice 20 = .ok (.aload_n 0, 1) := by decide +kernel
theorem dX9_ice_21 : decode cX9_ice 21 = .ok (.getfield 23, 3) := by decide +kernel
theorem dX9_ice_24 : decode cX9_ice 24 = .ok (.iload_n 1, 1) := by decide +kernel
theorem dX9_ice_25 : decode cX9_ice 25 = .ok (.putfield 108, 3) := by decide +kernel
theorem dX9_ice_28 : decode cX9_ice 28 = .ok (.aload_n 0, 1) := by decide +kernel
theorem dX9_ice_29 : decode cX9_ice 29 = .ok (.getfield 23, 3) := by decide +kernel
theorem dX9_ice_32 : decode cX9_ice 32 = .ok (.iload_n 2, 1) := by decide +kernel
theorem dX9_ice_33 : decode cX9_ice 33 = .ok (.putfield 111, 3) := by decide +kernel
theorem dX9_ice_36 : decode cX9_ice 36 = .ok (.iconst 1, 1) := by decide +kernel
theorem dX9_ice_37 : decode cX9_ice 37 = .ok (.ireturn, 1) := by decide +kernel
set_option maxRecDepth 20000 in
theorem ggX9_squadron_X9_isCounty : GoodIn wsX9_squadron wsX9_isCounty := goodIn_r _ [10, 11, 12, 9, 13] (by decide +kernel) (by decide +kernel)
set_option maxRecDepth 20000 in
theorem gX9_squadron_X9_isCounty : GoodIn wsX9_squadron (va_wsS RX9 114 yX9_isCounty wsX9_isCounty) := goodIn_app (goodIn_of _ (by decide +kernel)) ggX9_squadron_X9_isCounty
set_option maxRecDepth 20000 in
theorem ggX9_squadron_X9_isWithin : GoodIn wsX9_squadron wsX9_isWithin := goodIn_r _ [13] (by decide +kernel) (by decide +kernel)
set_option maxRecDepth 20000 in
theorem gX9_squadron_X9_isWithin : GoodIn wsX9_squadron (va_wsS RX9 82 yX9_isWithin wsX9_isWithin) := goodIn_app (goodIn_of _ (by decide +kernel)) ggX9_squadron_X9_isWithin
set_option maxRecDepth 20000 in
theorem ggX9_squadron_X3_isFull : GoodIn wsX9_squadron wsX3_isFull := goodIn_r _ [18, 19, 75, 76, 77] (by decide +kernel) (by decide +kernel)
set_option maxRecDepth 20000 in
theorem gX9_squadron_X3_isFull : GoodIn wsX9_squadron (wsV RX9 117 RX3 yX3_isFull wsX3_isFull) := goodIn_app (goodIn_of _ (by decide +kernel)) ggX9_squadron_X3_isFull
set_option maxRecDepth 20000 in
theorem ggX9_squadron_X6_init : GoodIn wsX9_squadron wsX6_init := goodIn_r _ [22, 23, 24, 25, 26, 27, 28, 29, 30, 31, 32, 33, 34, 35, 36, 37, 38, 54, 55, 56, 57, 58, 59, 60, 61, 62, 63, 64, 65] (by decide +kernel) (by decide +kernel)
set_option maxRecDepth 20000 in
theorem gX9_squadron_X6_init : GoodIn wsX9_squadron (wsX6_init) := ggX9_squadron_X6_init
set_option maxRecDepth 20000 in
theorem ggX9_squadron_X3_add : GoodIn wsX9_squadron wsX3_add := goodIn_r _ [42, 43, 19, 44, 15, 16, 17, 18, 75, 76, 77] (by decide +kernel) (by decide +kernel)
set_option maxRecDepth 20000 in
theorem gX9_squadron_X3_add : GoodIn wsX9_squadron (wsV RX9 129 RX3 yX3_add wsX3_add) := goodIn_app (goodIn_of _ (by decide +kernel)) ggX9_squadron_X3_add
theorem dX9_squadron_0 : decode cX9_squadron 0 = .ok (.iload_n 1, 1) := by decide +kernel
theorem dX9_squadron_1 : decode cX9_squadron 1 = .ok (.invokestatic 114, 3) := by decide +kernel
theorem dX9_squadron_4 : decode cX9_squadron 4 = .ok (.ifCond .eq 40, 3) := by decide +kernel
theorem dX9_squadron_7 : decode cX9_squadron 7 = .ok (.iload_n 2, 1) := by decide +kernel
theorem dX9_squadron_8 : decode cX9_squadron 8 = .ok (.iconst 1, 1) := by decide +kernel
theorem dX9_squadron_9 : decode cX9_squadron 9 = .ok (.bipush 50, 2) := by decide +kernel
theorem dX9_squadron_11 : decode cX9_squadron 11 = .ok (.invokestatic 82, 3) := by decide +kernel
theorem dX9_squadron_14 : decode cX9_squadron 14 = .ok (.ifCond .eq 30, 3) := by decide +kernel
theorem dX9_squadron_17 : decode cX9_squadron 17 = .ok (.iload_n 3, 1) := by decide +kernel
theorem dX9_squadron_18 : decode cX9_squadron 18 = .ok (.iconst 0, 1) := by decide +kernel
theorem dX9_squadron_19 : decode cX9_squadron 19 = .ok (.sipush 5000, 3) := by decide +kernel
theorem dX9_squadron_22 : decode cX9_squadron 22 = .ok (.invokestatic 82, 3) := by decide +kernel
theorem dX9_squadron_25 : decode cX9_squadron 25 = .ok (.ifCond .eq 19, 3) := by decide +kernel
theorem dX9_squadron_28 : decode cX9_squadron 28 = .ok (.iload 4, 2) := by decide +kernel
theorem dX9_squadron_30 : decode cX9_squadron 30 = .ok (.iconst 0, 1) := by decide +kernel
theorem dX9_squadron_31 : decode cX9_squadron 31 = .ok (.sipush 2000, 3) := by decide +kernel
theorem dX9_squadron_34 : decode cX9_squadron 34 = .ok (.invokestatic 82, 3) := by decide +kernel
theorem dX9_squadron_37 : decode cX9_squadron 37 = .ok (.ifCond .eq 7, 3) := by decide +kernel
theorem dX9_squadron_40 : decode cX9_squadron 40 = .ok (.iconst 1, 1) := by decide +kernel
theorem dX9_squadron_41 : decode cX9_squadron 41 = .ok (.goto 4, 3) := by decide +kernel
theorem dX9_squadron_44 : decode cX9_squadron 44 = .ok (.iconst 0, 1) := by decide +kernel
theorem dX9_squadron_45 : decode cX9_squadron 45 = .ok (.istore 5, 2) := by decide +kernel
theorem dX9_squadron_47 : decode cX9_squadron 47 = .ok (.iload 5, 2) := by decide +kernel
theorem dX9_squadron_49 : decode cX9_squadron 49 = .ok (.ifCond .eq 13, 3) := by decide +kernel
theorem dX9_squadron_52 : decode cX9_squadron 52 = .ok (.aload_n 0, 1) := by decide +kernel
theorem dX9_squadron_53 : decode cX9_squadron 53 = .ok (.getfield 30, 3) := by decide +kernel
theorem dX9_squadron_56 : decode cX9_squadron 56 = .ok (.invokevirtual 117, 3) := by decide +kernel
theorem dX9_squadron_59 : decode cX9_squadron 59 = .ok (.ifCond .eq 5, 3) := by decide +kernel
theorem dX9_squadron_62 : decode cX9_squadron 62 = .ok (.iconst (-1), 1) := by decide +kernel
theorem dX9_squadron_63 : decode cX9_squadron 63 = .ok (.ireturn, 1) := by decide +kernel
theorem dX9_squadron_64 : decode cX9_squadron 64 = .ok (.aload_n 0, 1) := by decide +kernel
theorem dX9_squadron_65 : decode cX9_squadron 65 = .ok (.getfield 30, 3) := by decide +kernel
theorem dX9_squadron_68 : decode cX9_squadron 68 = .ok (.new 121, 3) := by decide +kernel
theorem dX9_squadron_71 : decode cX9_squadron 71 = .ok (.dup, 1) := by decide +kernel
theorem dX9_squadron_72 : decode cX9_squadron 72 = .ok (.aload_n 0, 1) := by decide +kernel
theorem dX9_squadron_73 : decode cX9_squadron 73 = .ok (.getfield 23, 3) := by decide +kernel
theorem dX9_squadron_76 : decode cX9_squadron 76 = .ok (.getfield 123, 3) := by decide +kernel
theorem dX9_squadron_79 : decode cX9_squadron 79 = .ok (.iload_n 1, 1) := by decide +kernel
theorem dX9_squadron_80 : decode cX9_squadron 80 = .ok (.iload_n 2, 1) := by decide +kernel
theorem dX9_squadron_81 : decode cX9_squadron 81 = .ok (.iload_n 3, 1) := by decide +kernel
theorem dX9_squadron_82 : decode cX9_squadron 82 = .ok (.iload 4, 2) := by decide +kernel
theorem dX9_squadron_84 : decode cX9_squadron 84 = .ok (.invokespecial 126, 3) := by decide +kernel
theorem dX9_squadron_87 : decode cX9_squadron 87 = .ok (.invokevirtual 129, 3) := by decide +kernel
theorem dX9_squadron_90 : decode cX9_squadron 90 = .ok (.ireturn, 1) := by decide +kernel
set_option maxRecDepth 20000 in
theorem ggX9_feed_X8_hasRoom : GoodIn wsX9_feed wsX8_hasRoom := goodIn_r _ [7, 8, 23, 24] (by decide +kernel) (by decide +kernel)
set_option maxRecDepth 20000 in
theorem gX9_feed_X8_hasRoom : GoodIn wsX9_feed (wsV RX9 133 RX8 yX8_hasRoom wsX8_hasRoom) := goodIn_app (goodIn_of _ (by decide +kernel)) ggX9_feed_X8_hasRoom
set_option maxRecDepth 20000 in
theorem ggX9_feed_X8_append : GoodIn wsX9_feed wsX8_append := goodIn_r _ [12, 8, 13, 23, 24] (by decide +kernel) (by decide +kernel)
set_option maxRecDepth 20000 in
theorem gX9_feed_X8_append : GoodIn wsX9_feed (wsV RX9 136 RX8 yX8_append wsX8_append) := goodIn_app (goodIn_of _ (by decide +kernel)) ggX9_feed_X8_append
theorem dX9_feed_0 : decode cX9_feed 0 = .ok (.aload_n 0, 1) := by decide +kernel
theorem dX9_feed_1 : decode cX9_feed 1 = .ok (.getfield 37, 3) := by decide +kernel
theorem dX9_feed_4 : decode cX9_feed 4 = .ok (.invokevirtual 133, 3) := by decide +kernel
theorem dX9_feed_7 : decode cX9_feed 7 = .ok (.ifCond .ne 5, 3) := by decide +kernel
theorem dX9_feed_10 : decode cX9_feed 10 = .ok (.iconst (-1), 1) := by decide +kernel
theorem dX9_feed_11 : decode cX9_feed 11 = .ok (.ireturn, 1) := by decide +kernel
theorem dX9_feed_12 : decode cX9_feed 12 = .ok (.aload_n 0, 1) := by decide +kernel
theorem dX9_feed_13 : decode cX9_feed 13 = .ok (.getfield 37, 3) := by decide +kernel
theorem dX9_feed_16 : decode cX9_feed 16 = .ok (.iload_n 1, 1) := by decide +kernel
theorem dX9_feed_17 : decode cX9_feed 17 = .ok (.invokevirtual 136, 3) := by decide +kernel
theorem dX9_feed_20 : decode cX9_feed 20 = .ok (.aload_n 0, 1) := by decide +kernel
theorem dX9_feed_21 : decode cX9_feed 21 = .ok (.getfield 37, 3) := by decide +kernel
theorem dX9_feed_24 : decode cX9_feed 24 = .ok (.iload_n 2, 1) := by decide +kernel
theorem dX9_feed_25 : decode cX9_feed 25 = .ok (.invokevirtual 136, 3) := by decide +kernel
theorem dX9_feed_28 : decode cX9_feed 28 = .ok (.aload_n 0, 1) := by decide +kernel
theorem dX9_feed_29 : decode cX9_feed 29 = .ok (.getfield 37, 3) := by decide +kernel
theorem dX9_feed_32 : decode cX9_feed 32 = .ok (.iload_n 3, 1) := by decide +kernel
theorem dX9_feed_33 : decode cX9_feed 33 = .ok (.invokevirtual 136, 3) := by decide +kernel
theorem dX9_feed_36 : decode cX9_feed 36 = .ok (.aload_n 0, 1) := by decide +kernel
theorem dX9_feed_37 : decode cX9_feed 37 = .ok (.getfield 37, 3) := by decide +kernel
theorem dX9_feed_40 : decode cX9_feed 40 = .ok (.iload 4, 2) := by decide +kernel
theorem dX9_feed_42 : decode cX9_feed 42 = .ok (.invokevirtual 136, 3) := by decide +kernel
theorem dX9_feed_45 : decode cX9_feed 45 = .ok (.aload_n 0, 1) := by decide +kernel
theorem dX9_feed_46 : decode cX9_feed 46 = .ok (.getfield 37, 3) := by decide +kernel
theorem dX9_feed_49 : decode cX9_feed 49 = .ok (.iload 5, 2) := by decide +kernel
theorem dX9_feed_51 : decode cX9_feed 51 = .ok (.invokevirtual 136, 3) := by decide +kernel
theorem dX9_feed_54 : decode cX9_feed 54 = .ok (.aload_n 0, 1) := by decide +kernel
theorem dX9_feed_55 : decode cX9_feed 55 = .ok (.getfield 37, 3) := by decide +kernel
theorem dX9_feed_58 : decode cX9_feed 58 = .ok (.getfield 139, 3) := by decide +kernel
theorem dX9_feed_61 : decode cX9_feed 61 = .ok (.ireturn, 1) := by decide +kernel
set_option maxRecDepth 20000 in
theorem ggX9_statute_X1_isFull : GoodIn wsX9_statute wsX1_isFull := goodIn_r _ [17, 18, 177, 178, 179] (by decide +kernel) (by decide +kernel)
set_option maxRecDepth 20000 in
theorem gX9_statute_X1_isFull : GoodIn wsX9_statute (wsV RX9 142 RX1 yX1_isFull wsX1_isFull) := goodIn_app (goodIn_of _ (by decide +kernel)) ggX9_statute_X1_isFull
set_option maxRecDepth 20000 in
theorem ggX9_statute_X7_init : GoodIn wsX9_statute wsX7_init := goodIn_r _ [21, 22, 23, 24, 25, 26, 27, 28, 29, 30, 31, 32, 161, 162, 163, 164, 165, 166, 167] (by decide +kernel) (by decide +kernel)
set_option maxRecDepth 20000 in
theorem gX9_statute_X7_init : GoodIn wsX9_statute (wsX7_init) := ggX9_statute_X7_init
set_option maxRecDepth 20000 in
theorem ggX9_statute_X4_read : GoodIn wsX9_statute wsX4_read := goodIn_r _ [37, 38, 39, 40, 41, 42, 43, 44, 36, 45, 46, 47, 48, 49, 50, 51, 52, 53, 54, 55, 56, 57, 58, 59, 60, 61, 62, 63, 64, 65, 66, 67, 68, 69, 70, 71, 72, 73, 74, 75, 76, 77, 78, 79, 80, 81, 82, 83, 84, 85, 86, 87, 88, 89, 90, 91, 92, 93, 94, 95, 96, 97, 98, 99, 100, 101, 102, 103, 104, 105, 106, 107, 108, 109, 110, 111, 112, 113, 114, 115, 116, 117, 118, 119, 120, 121, 122, 123, 124, 125, 126, 127, 128, 129, 130, 131, 132, 133, 134, 135, 136, 137, 138, 139, 6, 140, 28, 141, 142, 143, 180, 181, 182, 183, 184, 159, 160, 161, 162, 163, 164, 165, 166, 167] (by decide +kernel) (by decide +kernel)
set_option maxRecDepth 20000 in
theorem gX9_statute_X4_read : GoodIn wsX9_statute (wsV RX9 149 RX4 yX4_read wsX4_read) := goodIn_app (goodIn_of _ (by decide +kernel)) ggX9_statute_X4_read
set_option maxRecDepth 20000 in
theorem ggX9_statute_X1_take : GoodIn wsX9_statute wsX1_take := goodIn_r _ [147, 148, 18, 149, 14, 15, 16, 17, 177, 178, 179] (by decide +kernel) (by decide +kernel)
set_option maxRecDepth 20000 in
theorem gX9_statute_X1_take : GoodIn wsX9_statute (wsV RX9 153 RX1 yX1_take wsX1_take) := goodIn_app (goodIn_of _ (by decide +kernel)) ggX9_statute_X1_take
theorem dX9_statute_0 : decode cX9_statute 0 = .ok (.iload_n 1, 1) := by decide +kernel
theorem dX9_statute_1 : decode cX9_statute 1 = .ok (.ifCond .lt 14, 3) := by decide +kernel
theorem dX9_statute_4 : decode cX9_statute 4 = .ok (.iload_n 1, 1) := by decide +kernel
theorem dX9_statute_5 : decode cX9_statute 5 = .ok (.aload_n 0, 1) := by decide +kernel
theorem dX9_statute_6 : decode cX9_statute 6 = .ok (.getfield 37, 3) := by decide +kernel
theorem dX9_statute_9 : decode cX9_statute 9 = .ok (.getfield 139, 3) := by decide +kernel
theorem dX9_statute_12 : decode cX9_statute 12 = .ok (.if_icmp .le 6, 3) := by decide +kernel
theorem dX9_statute_15 : decode cX9_statute 15 = .ok (.bipush (-2), 2) := by decide +kernel
theorem dX9_statute_17 : decode cX9_statute 17 = .ok (.ireturn, 1) := by decide +kernel
theorem dX9_statute_18 : decode cX9_statute 18 = .ok (.aload_n 0, 1) := by decide +kernel
theorem dX9_statute_19 : decode cX9_statute 19 = .ok (.getfield 53, 3) := by decide +kernel
theorem dX9_statute_22 : decode cX9_statute 22 = .ok (.invokevirtual 142, 3) := by decide +kernel
theorem dX9_statute_25 : decode cX9_statute 25 = .ok (.ifCond .eq 6, 3) := by decide +kernel
theorem dX9_statute_28 : decode cX9_statute 28 = .ok (.bipush (-3), 2) := by decide +kernel
theorem dX9_statute_30 : decode cX9_statute 30 = .ok (.ireturn, 1) := by decide +kernel
theorem dX9_statute_31 : decode cX9_statute 31 = .ok (.new 143, 3) := by decide +kernel
theorem dX9_statute_34 : decode cX9_statute 34 = .ok (.dup, 1) := by decide +kernel
theorem dX9_statute_35 : decode cX9_statute 35 = .ok (.aload_n 0, 1) := by decide +kernel
theorem dX9_statute_36 : decode cX9_statute 36 = .ok (.getfield 23, 3) := by decide +kernel
theorem dX9_statute_39 : decode cX9_statute 39 = .ok (.getfield 123, 3) := by decide +kernel
theorem dX9_statute_42 : decode cX9_statute 42 = .ok (.aload_n 0, 1) := by decide +kernel
theorem dX9_statute_43 : decode cX9_statute 43 = .ok (.getfield 53, 3) := by decide +kernel
theorem dX9_statute_46 : decode cX9_statute 46 = .ok (.getfield 145, 3) := by decide +kernel
theorem dX9_statute_49 : decode cX9_statute 49 = .ok (.aload_n 0, 1) := by decide +kernel
theorem dX9_statute_50 : decode cX9_statute 50 = .ok (.getfield 71, 3) := by decide +kernel
theorem dX9_statute_53 : decode cX9_statute 53 = .ok (.invokespecial 146, 3) := by decide +kernel
theorem dX9_statute_56 : decode cX9_statute 56 = .ok (.astore_n 2, 1) := by decide +kernel
theorem dX9_statute_57 : decode cX9_statute 57 = .ok (.aload_n 0, 1) := by decide +kernel
theorem dX9_statute_58 : decode cX9_statute 58 = .ok (.aload_n 0, 1) := by decide +kernel
theorem dX9_statute_59 : decode cX9_statute 59 = .ok (.getfield 46, 3) := by decide +kernel
theorem dX9_statute_62 : decode cX9_statute 62 = .ok (.iload_n 1, 1) := by decide +kernel
theorem dX9_statute_63 : decode cX9_statute 63 = .ok (.aload_n 2, 1) := by decide +kernel
theorem dX9_statute_64 : decode cX9_statute 64 = .ok (.invokevirtual 149, 3) := by decide +kernel
theorem dX9_statute_67 : decode cX9_statute 67 = .ok (.putfield 75, 3) := by decide +kernel
theorem dX9_statute_70 : decode cX9_statute 70 = .ok (.aload_n 0, 1) := by decide +kernel
theorem dX9_statute_71 : decode cX9_statute 71 = .ok (.getfield 37, 3) := by decide +kernel
theorem dX9_statute_74 : decode cX9_statute 74 = .ok (.iconst 0, 1) := by decide +kernel
theorem dX9_statute_75 : decode cX9_statute 75 = .ok (.putfield 139, 3) := by decide +kernel
theorem dX9_statute_78 : decode cX9_statute 78 = .ok (.aload_n 0, 1) := by decide +kernel
theorem dX9_statute_79 : decode cX9_statute 79 = .ok (.getfield 75, 3) := by decide +kernel
theorem dX9_statute_82 : decode cX9_statute 82 = .ok (.iconst (-1), 1) := by decide +kernel
theorem dX9_statute_83 : decode cX9_statute 83 = .ok (.if_icmp .ne 14, 3) := by decide +kernel
theorem dX9_statute_86 : decode cX9_statute 86 = .ok (.aload_n 0, 1) := by decide +kernel
theorem dX9_statute_87 : decode cX9_statute 87 = .ok (.getfield 53, 3) := by decide +kernel
theorem dX9_statute_90 : decode cX9_statute 90 = .ok (.aload_n 2, 1) := by decide +kernel
theorem dX9_statute_91 : decode cX9_statute 91 = .ok (.invokevirtual 153, 3) := by decide +kernel
theorem dX9_statute_94 : decode cX9_statute 94 = .ok (.goto 4, 3) := by decide +kernel
theorem dX9_statute_97 : decode cX9_statute 97 = .ok (.iconst (-1), 1) := by decide +kernel
theorem dX9_statute_98 : decode cX9_statute 98 = .ok (.ireturn, 1) := by decide +kernel
theorem dX9_fault_0 : decode cX9_fault 0 = .ok (.aload_n 0, 1) := by decide +kernel
theorem dX9_fault_1 : decode cX9_fault 1 = .ok (.getfield 75, 3) := by decide +kernel
theorem dX9_fault_4 : decode cX9_fault 4 = .ok (.ireturn, 1) := by decide +kernel
set_option maxRecDepth 20000 in
theorem ggX9_law_X9_isDay : GoodIn wsX9_law wsX9_isDay := goodIn_r _ [5, 6, 7, 4, 8] (by decide +kernel) (by decide +kernel)
set_option maxRecDepth 20000 in
theorem gX9_law_X9_isDay : GoodIn wsX9_law (va_wsS RX9 105 yX9_isDay wsX9_isDay) := goodIn_app (goodIn_of _ (by decide +kernel)) ggX9_law_X9_isDay
set_option maxRecDepth 20000 in
theorem ggX9_law_X1_inForce : GoodIn wsX9_law wsX1_inForce := goodIn_r _ [13, 14, 15, 16, 17, 44, 45, 46, 47, 48, 49, 50, 51, 52, 53] (by decide +kernel) (by decide +kernel)
set_option maxRecDepth 20000 in
theorem gX9_law_X1_inForce : GoodIn wsX9_law (wsV RX9 157 RX1 yX1_inForce wsX1_inForce) := goodIn_app (goodIn_of _ (by decide +kernel)) ggX9_law_X1_inForce
set_option maxRecDepth 20000 in
theorem ggX9_law_X7_tell : GoodIn wsX9_law wsX7_tell := goodIn_r _ [22, 23, 24, 25, 26, 27, 28, 29, 30, 21, 31, 32, 33, 4, 34, 47, 48, 49, 50, 51, 52, 53] (by decide +kernel) (by decide +kernel)
set_option maxRecDepth 20000 in
theorem gX9_law_X7_tell : GoodIn wsX9_law (wsV RX9 161 RX7 yX7_tell wsX7_tell) := goodIn_app (goodIn_of _ (by decide +kernel)) ggX9_law_X7_tell
theorem dX9_law_0 : decode cX9_law 0 = .ok (.iload_n 1, 1) := by decide +kernel
theorem dX9_law_1 : decode cX9_law 1 = .ok (.invokestatic 105, 3) := by decide +kernel
theorem dX9_law_4 : decode cX9_law 4 = .ok (.ifCond .eq 18, 3) := by decide +kernel
theorem dX9_law_7 : decode cX9_law 7 = .ok (.aload_n 0, 1) := by decide +kernel
theorem dX9_law_8 : decode cX9_law 8 = .ok (.getfield 53, 3) := by decide +kernel
theorem dX9_law_11 : decode cX9_law 11 = .ok (.iload_n 1, 1) := by decide +kernel
theorem dX9_law_12 : decode cX9_law 12 = .ok (.invokevirtual 157, 3) := by decide +kernel
theorem dX9_law_15 : decode cX9_law 15 = .ok (.iload_n 2, 1) := by decide +kernel
theorem dX9_law_16 : decode cX9_law 16 = .ok (.invokevirtual 161, 3) := by decide +kernel
theorem dX9_law_19 : decode cX9_law 19 = .ok (.goto 4, 3) := by decide +kernel
theorem dX9_law_22 : decode cX9_law 22 = .ok (.iconst (-1), 1) := by decide +kernel
theorem dX9_law_23 : decode cX9_law 23 = .ok (.ireturn, 1) := by decide +kernel
set_option maxRecDepth 20000 in
theorem ggX9_leave_X3_find : GoodIn wsX9_leave wsX3_find := goodIn_r _ [7, 8, 9, 10, 11, 12, 34, 35, 36] (by decide +kernel) (by decide +kernel)
set_option maxRecDepth 20000 in
theorem gX9_leave_X3_find : GoodIn wsX9_leave (wsV RX9 165 RX3 yX3_find wsX3_find) := goodIn_app (goodIn_of _ (by decide +kernel)) ggX9_leave_X3_find
theorem dX9_leave_0 : decode cX9_leave 0 = .ok (.aload_n 0, 1) := by decide +kernel
theorem dX9_leave_1 : decode cX9_leave 1 = .ok (.getfield 30, 3) := by decide +kernel
theorem dX9_leave_4 : decode cX9_leave 4 = .ok (.iload_n 1, 1) := by decide +kernel
theorem dX9_leave_5 : decode cX9_leave 5 = .ok (.invokevirtual 165, 3) := by decide +kernel
theorem dX9_leave_8 : decode cX9_leave 8 = .ok (.astore_n 3, 1) := by decide +kernel
theorem dX9_leave_9 : decode cX9_leave 9 = .ok (.aload_n 3, 1) := by decide +kernel
theorem dX9_leave_10 : decode cX9_leave 10 = .ok (.ifnull 11, 3) := by decide +kernel
theorem dX9_leave_13 : decode cX9_leave 13 = .ok (.aload_n 3, 1) := by decide +kernel
theorem dX9_leave_14 : decode cX9_leave 14 = .ok (.getfield 169, 3) := by decide +kernel
theorem dX9_leave_17 : decode cX9_leave 17 = .ok (.iload_n 2, 1) := by decide +kernel
theorem dX9_leave_18 : decode cX9_leave 18 = .ok (.if_icmp .ne 5, 3) := by decide +kernel
theorem dX9_leave_21 : decode cX9_leave 21 = .ok (.iconst 0, 1) := by decide +kernel
theorem dX9_leave_22 : decode cX9_leave 22 = .ok (.ireturn, 1) := by decide +kernel
theorem dX9_leave_23 : decode cX9_leave 23 = .ok (.aload_n 3, 1) := by decide +kernel
theorem dX9_leave_24 : decode cX9_leave 24 = .ok (.iload_n 2, 1) := by decide +kernel
theorem dX9_leave_25 : decode cX9_leave 25 = .ok (.putfield 169, 3) := by decide +kernel
theorem dX9_leave_28 : decode cX9_leave 28 = .ok (.iconst 1, 1) := by decide +kernel
theorem dX9_leave_29 : decode cX9_leave 29 = .ok (.ireturn, 1) := by decide +kernel
set_option maxRecDepth 20000 in
theorem ggX9_lose_X3_find : GoodIn wsX9_lose wsX3_find := goodIn_r _ [7, 8, 9, 10, 11, 12, 49, 50, 51] (by decide +kernel) (by decide +kernel)
set_option maxRecDepth 20000 in
theorem gX9_lose_X3_find : GoodIn wsX9_lose (wsV RX9 165 RX3 yX3_find wsX3_find) := goodIn_app (goodIn_of _ (by decide +kernel)) ggX9_lose_X3_find
set_option maxRecDepth 20000 in
theorem ggX9_lose_X6_hasCome : GoodIn wsX9_lose wsX6_hasCome := goodIn_r _ [17, 18, 37, 38, 39, 40, 41, 42, 43, 44, 45, 46, 47, 48] (by decide +kernel) (by decide +kernel)
set_option maxRecDepth 20000 in
theorem gX9_lose_X6_hasCome : GoodIn wsX9_lose (wsV RX9 173 RX6 yX6_hasCome wsX6_hasCome) := goodIn_app (goodIn_of _ (by decide +kernel)) ggX9_lose_X6_hasCome
set_option maxRecDepth 20000 in
theorem ggX9_lose_X6_bagsLeft : GoodIn wsX9_lose wsX6_bagsLeft := goodIn_r _ [22, 23, 24, 37, 38, 39, 40, 41, 42, 43, 44, 45, 46, 47, 48] (by decide +kernel) (by decide +kernel)
set_option maxRecDepth 20000 in
theorem gX9_lose_X6_bagsLeft : GoodIn wsX9_lose (wsV RX9 176 RX6 yX6_bagsLeft wsX6_bagsLeft) := goodIn_app (goodIn_of _ (by decide +kernel)) ggX9_lose_X6_bagsLeft
set_option maxRecDepth 20000 in
theorem ggX9_lose_X9_isWithin : GoodIn wsX9_lose wsX9_isWithin := goodIn_r _ [27] (by decide +kernel) (by decide +kernel)
set_option maxRecDepth 20000 in
theorem gX9_lose_X9_isWithin : GoodIn wsX9_lose (va_wsS RX9 82 yX9_isWithin wsX9_isWithin) := goodIn_app (goodIn_of _ (by decide +kernel)) ggX9_lose_X9_isWithin
theorem dX9_lose_0 : decode cX9_lose 0 = .ok (.aload_n 0, 1) := by decide +kernel
theorem dX9_lose_1 : decode cX9_lose 1 = .ok (.getfield 30, 3) := by decide +kernel
theorem dX9_lose_4 : decode cX9_lose 4 = .ok (.iload_n 1, 1) := by decide +kernel
theorem dX9_lose_5 : decode cX9_lose 5 = .ok (.invokevirtual 165, 3) := by decide +kernel
theorem dX9_lose_8 : decode cX9_lose 8 = .ok (.astore_n 3, 1) := by decide +kernel
theorem dX9_lose_9 : decode cX9_lose 9 = .ok (.aload_n 3, 1) := by decide +kernel
theorem dX9_lose_10 : decode cX9_lose 10 = .ok (.ifnull 22, 3) := by decide +kernel
theorem dX9_lose_13 : decode cX9_lose 13 = .ok (.aload_n 3, 1) := by decide +kernel
theorem dX9_lose_14 : decode cX9_lose 14 = .ok (.invokevirtual 173, 3) := by decide +kernel
theorem dX9_lose_17 : decode cX9_lose 17 = .ok (.ifCond .ne 15, 3) := by decide +kernel
theorem dX9_lose_20 : decode cX9_lose 20 = .ok (.iload_n 2, 1) := by decide +kernel
theorem dX9_lose_21 : decode cX9_lose 21 = .ok (.iconst 1, 1) := by decide +kernel
theorem dX9_lose_22 : decode cX9_lose 22 = .ok (.aload_n 3, 1) := by decide +kernel
theorem dX9_lose_23 : decode cX9_lose 23 = .ok (.invokevirtual 176, 3) := by decide +kernel
theorem dX9_lose_26 : decode cX9_lose 26 = .ok (.invokestatic 82, 3) := by decide +kernel
theorem dX9_lose_29 : decode cX9_lose 29 = .ok (.ifCond .ne 5, 3) := by decide +kernel
theorem dX9_lose_32 : decode cX9_lose 32 = .ok (.iconst (-1), 1) := by decide +kernel
theorem dX9_lose_33 : decode cX9_lose 33 = .ok (.ireturn, 1) := by decide +kernel
theorem dX9_lose_34 : decode cX9_lose 34 = .ok (.aload_n 3, 1) := by decide +kernel
theorem dX9_lose_35 : decode cX9_lose 35 = .ok (.dup, 1) := by decide +kernel
theorem dX9_lose_36 : decode cX9_lose 36 = .ok (.getfield 180, 3) := by decide +kernel
theorem dX9_lose_39 : decode cX9_lose 39 = .ok (.iload_n 2, 1) := by decide +kernel
theorem dX9_lose_40 : decode cX9_lose 40 = .ok (.iadd, 1) := by decide +kernel
theorem dX9_lose_41 : decode cX9_lose 41 = .ok (.putfield 180, 3) := by decide +kernel
theorem dX9_lose_44 : decode cX9_lose 44 = .ok (.aload_n 3, 1) := by decide +kernel
theorem dX9_lose_45 : decode cX9_lose 45 = .ok (.invokevirtual 176, 3) := by decide +kernel
theorem dX9_lose_48 : decode cX9_lose 48 = .ok (.ireturn, 1) := by decide +kernel
set_option maxRecDepth 20000 in
theorem ggX9_day_X0_takeFromLakes : GoodIn wsX9_day wsX0_takeFromLakes := goodIn_r _ [11, 12, 13, 14, 15, 16, 17, 18, 19, 20, 21, 22, 23, 10, 24, 25, 26, 27, 28, 137, 138, 139, 140, 141, 142, 143, 144, 145] (by decide +kernel) (by decide +kernel)
set_option maxRecDepth 20000 in
theorem gX9_day_X0_takeFromLakes : GoodIn wsX9_day (wsV RX9 183 RX0 yX0_takeFromLakes wsX0_takeFromLakes) := goodIn_app (goodIn_of _ (by decide +kernel)) ggX9_day_X0_takeFromLakes
set_option maxRecDepth 20000 in
theorem ggX9_day_X3_beginDay : GoodIn wsX9_day wsX3_beginDay := goodIn_r _ [33, 34, 35, 36, 37, 32, 38, 39, 26, 27, 28, 40, 41, 42, 43, 44, 45, 46, 47, 48, 49, 50, 51, 52, 146, 147, 148, 149, 150, 151, 152, 153, 154, 155, 156, 157, 158, 159, 160] (by decide +kernel) (by decide +kernel)
set_option maxRecDepth 20000 in
theorem gX9_day_X3_beginDay : GoodIn wsX9_day (wsV RX9 186 RX3 yX3_beginDay wsX3_beginDay) := goodIn_app (goodIn_of _ (by decide +kernel)) ggX9_day_X3_beginDay
set_option maxRecDepth 20000 in
theorem ggX9_day_X1_inForce : GoodIn wsX9_day wsX1_inForce := goodIn_r _ [57, 58, 59, 60, 61, 161, 162, 163, 130, 131, 132, 133, 134, 135, 136] (by decide +kernel) (by decide +kernel)
set_option maxRecDepth 20000 in
theorem gX9_day_X1_inForce : GoodIn wsX9_day (wsV RX9 157 RX1 yX1_inForce wsX1_inForce) := goodIn_app (goodIn_of _ (by decide +kernel)) ggX9_day_X1_inForce
set_option maxRecDepth 20000 in
theorem ggX9_day_X3_lineUp : GoodIn wsX9_day wsX3_lineUp := goodIn_r _ [65, 34, 66, 67, 68, 69, 32, 70, 71, 72, 35, 36, 37, 38, 39, 26, 27, 28, 146, 147, 148, 149, 150, 151, 152, 153, 154, 155, 156, 157, 158, 159, 160] (by decide +kernel) (by decide +kernel)
set_option maxRecDepth 20000 in
theorem gX9_day_X3_lineUp : GoodIn wsX9_day (wsV RX9 192 RX3 yX3_lineUp wsX3_lineUp) := goodIn_app (goodIn_of _ (by decide +kernel)) ggX9_day_X3_lineUp
set_option maxRecDepth 20000 in
theorem ggX9_day_X9_workLock : GoodIn wsX9_day wsX9_workLock := goodIn_r _ [76, 2, 3, 77, 78, 79, 1, 80, 81, 82, 10, 83, 84, 85, 86, 87, 88, 25, 26, 27, 28, 89, 90, 91, 32, 92, 66, 35, 36, 37, 38, 34, 39, 93, 94, 95, 96, 97, 98, 99, 100, 101, 102, 103, 104, 105, 106, 107, 20, 21, 22, 23, 24, 108, 109, 110, 111, 16, 17, 18, 19, 112, 113, 114, 43, 115, 46, 47, 52, 116, 117, 118, 119, 45, 120, 121, 122, 123, 124, 125, 126, 127, 128, 129, 146, 147, 148, 149, 150, 151, 152, 153, 154, 155, 156, 157, 158, 159, 160, 137, 138, 139, 140, 141, 142, 143, 144, 145] (by decide +kernel) (by decide +kernel)
set_option maxRecDepth 20000 in
theorem gX9_day_X9_workLock : GoodIn wsX9_day (wsV RX9 195 RX9 yX9_workLock wsX9_workLock) := goodIn_app (goodIn_of _ (by decide +kernel)) ggX9_day_X9_workLock
theorem dX9_day_0 : decode cX9_day 0 = .ok (.aload_n 0, 1) := by decide +kernel
theorem dX9_day_1 : decode cX9_day 1 = .ok (.getfield 71, 3) := by decide +kernel
theorem dX9_day_4 : decode cX9_day 4 = .ok (.sipush 400, 3) := by decide +kernel
theorem dX9_day_7 : decode cX9_day 7 = .ok (.if_icmp .lt 5, 3) := by decide +kernel
theorem dX9_day_10 : decode cX9_day 10 = .ok (.iconst (-1), 1) := by decide +kernel
theorem dX9_day_11 : decode cX9_day 11 = .ok (.ireturn, 1) := by decide +kernel
theorem dX9_day_12 : decode cX9_day 12 = .ok (.aload_n 0, 1) := by decide +kernel
theorem dX9_day_13 : decode cX9_day 13 = .ok (.getfield 23, 3) := by decide +kernel
theorem dX9_day_16 : decode cX9_day 16 = .ok (.invokevirtual 183, 3) := by decide +kernel
theorem dX9_day_19 : decode cX9_day 19 = .ok (.aload_n 0, 1) := by decide +kernel
theorem dX9_day_20 : decode cX9_day 20 = .ok (.getfield 30, 3) := by decide +kernel
theorem dX9_day_23 : decode cX9_day 23 = .ok (.invokevirtual 186, 3) := by decide +kernel
theorem dX9_day_26 : decode cX9_day 26 = .ok (.aload_n 0, 1) := by decide +kernel
theorem dX9_day_27 : decode cX9_day 27 = .ok (.getfield 30, 3) := by decide +kernel
theorem dX9_day_30 : decode cX9_day 30 = .ok (.aload_n 0, 1) := by decide +kernel
theorem dX9_day_31 : decode cX9_day 31 = .ok (.getfield 53, 3) := by decide +kernel
theorem dX9_day_34 : decode cX9_day 34 = .ok (.aload_n 0, 1) := by decide +kernel
theorem dX9_day_35 : decode cX9_day 35 = .ok (.getfield 71, 3) := by decide +kernel
theorem dX9_day_38 : decode cX9_day 38 = .ok (.invokevirtual 157, 3) := by decide +kernel
theorem dX9_day_41 : decode cX9_day 41 = .ok (.getfield 189, 3) := by decide +kernel
theorem dX9_day_44 : decode cX9_day 44 = .ok (.invokevirtual 192, 3) := by decide +kernel
theorem dX9_day_47 : decode cX9_day 47 = .ok (.aload_n 0, 1) := by decide +kernel
theorem dX9_day_48 : decode cX9_day 48 = .ok (.getfield 23, 3) := by decide +kernel
theorem dX9_day_51 : decode cX9_day 51 = .ok (.getfield 123, 3) := by decide +kernel
theorem dX9_day_54 : decode cX9_day 54 = .ok (.iconst 2, 1) := by decide +kernel
theorem dX9_day_55 : decode cX9_day 55 = .ok (.isub, 1) := by decide +kernel
theorem dX9_day_56 : decode cX9_day 56 = .ok (.istore_n 1, 1) := by decide +kernel
theorem dX9_day_57 : decode cX9_day 57 = .ok (.iload_n 1, 1) := by decide +kernel
theorem dX9_day_58 : decode cX9_day 58 = .ok (.ifCond .lt 14, 3) := by decide +kernel
theorem dX9_day_61 : decode cX9_day 61 = .ok (.aload_n 0, 1) := by decide +kernel
theorem dX9_day_62 : decode cX9_day 62 = .ok (.iload_n 1, 1) := by decide +kernel
theorem dX9_day_63 : decode cX9_day 63 = .ok (.invokevirtual 195, 3) := by decide +kernel
theorem dX9_day_66 : decode cX9_day 66 = .ok (.iinc 1 (-1), 3) := by decide +kernel
theorem dX9_day_69 : decode cX9_day 69 = .ok (.goto (-12), 3) := by decide +kernel
theorem dX9_day_72 : decode cX9_day 72 = .ok (.aload_n 0, 1) := by decide +kernel
theorem dX9_day_73 : decode cX9_day 73 = .ok (.dup, 1) := by decide +kernel
theorem dX9_day_74 : decode cX9_day 74 = .ok (.getfield 71, 3) := by decide +kernel
theorem dX9_day_77 : decode cX9_day 77 = .ok (.iconst 1, 1) := by decide +kernel
theorem dX9_day_78 : decode cX9_day 78 = .ok (.iadd, 1) := by decide +kernel
theorem dX9_day_79 : decode cX9_day 79 = .ok (.putfield 71, 3) := by decide +kernel
theorem dX9_day_82 : decode cX9_day 82 = .ok (.aload_n 0, 1) := by decide +kernel
theorem dX9_day_83 : decode cX9_day 83 = .ok (.getfield 71, 3) := by decide +kernel
theorem dX9_day_86 : decode cX9_day 86 = .ok (.ireturn, 1) := by decide +kernel
set_option maxRecDepth 20000 in
theorem ggX9_told_X3_find : GoodIn wsX9_told wsX3_find := goodIn_r _ [6, 7, 8, 9, 10, 11, 42, 43, 44] (by decide +kernel) (by decide +kernel)
set_option maxRecDepth 20000 in
theorem gX9_told_X3_find : GoodIn wsX9_told (wsV RX9 165 RX3 yX3_find wsX3_find) := goodIn_app (goodIn_of _ (by decide +kernel)) ggX9_told_X3_find
set_option maxRecDepth 20000 in
theorem ggX9_told_X6_tell : GoodIn wsX9_told wsX6_tell := goodIn_r _ [16, 17, 18, 19, 20, 21, 22, 23, 24, 15, 25, 26, 27, 9, 10, 11, 28, 29, 30, 31, 32, 45, 46, 47, 48, 49, 50, 51, 52, 53, 54, 55, 56] (by decide +kernel) (by decide +kernel)
set_option maxRecDepth 20000 in
theorem gX9_told_X6_tell : GoodIn wsX9_told (wsV RX9 198 RX6 yX6_tell wsX6_tell) := goodIn_app (goodIn_of _ (by decide +kernel)) ggX9_told_X6_tell
theorem dX9_told_0 : decode cX9_told 0 = .ok (.aload_n 0, 1) := by decide +kernel
theorem dX9_told_1 : decode cX9_told 1 = .ok (.getfield 30, 3) := by decide +kernel
theorem dX9_told_4 : decode cX9_told 4 = .ok (.iload_n 1, 1) := by decide +kernel
theorem dX9_told_5 : decode cX9_told 5 = .ok (.invokevirtual 165, 3) := by decide +kernel
theorem dX9_told_8 : decode cX9_told 8 = .ok (.astore_n 3, 1) := by decide +kernel
theorem dX9_told_9 : decode cX9_told 9 = .ok (.aload_n 3, 1) := by decide +kernel
theorem dX9_told_10 : decode cX9_told 10 = .ok (.ifnonnull 7, 3) := by decide +kernel
theorem dX9_told_13 : decode cX9_told 13 = .ok (.iconst (-1), 1) := by decide +kernel
theorem dX9_told_14 : decode cX9_told 14 = .ok (.goto 8, 3) := by decide +kernel
theorem dX9_told_17 : decode cX9_told 17 = .ok (.aload_n 3, 1) := by decide +kernel
theorem dX9_told_18 : decode cX9_told 18 = .ok (.iload_n 2, 1) := by decide +kernel
theorem dX9_told_19 : decode cX9_told 19 = .ok (.invokevirtual 198, 3) := by decide +kernel
theorem dX9_told_22 : decode cX9_told 22 = .ok (.ireturn, 1) := by decide +kernel
set_option maxRecDepth 20000 in
theorem ggX9_judge_X3_find : GoodIn wsX9_judge wsX3_find := goodIn_r _ [8, 9, 10, 11, 12, 13, 84, 85, 86] (by decide +kernel) (by decide +kernel)
set_option maxRecDepth 20000 in
theorem gX9_judge_X3_find : GoodIn wsX9_judge (wsV RX9 165 RX3 yX3_find wsX3_find) := goodIn_app (goodIn_of _ (by decide +kernel)) ggX9_judge_X3_find
set_option maxRecDepth 20000 in
theorem ggX9_judge_X6_hasCome : GoodIn wsX9_judge wsX6_hasCome := goodIn_r _ [18, 19, 72, 73, 74, 75, 76, 77, 78, 79, 80, 81, 82, 83] (by decide +kernel) (by decide +kernel)
set_option maxRecDepth 20000 in
theorem gX9_judge_X6_hasCome : GoodIn wsX9_judge (wsV RX9 173 RX6 yX6_hasCome wsX6_hasCome) := goodIn_app (goodIn_of _ (by decide +kernel)) ggX9_judge_X6_hasCome
set_option maxRecDepth 20000 in
theorem ggX9_judge_X1_inForce : GoodIn wsX9_judge wsX1_inForce := goodIn_r _ [24, 25, 26, 27, 28, 87, 88, 89, 90, 91, 92, 93, 94, 95, 96] (by decide +kernel) (by decide +kernel)
set_option maxRecDepth 20000 in
theorem gX9_judge_X1_inForce : GoodIn wsX9_judge (wsV RX9 157 RX1 yX1_inForce wsX1_inForce) := goodIn_app (goodIn_of _ (by decide +kernel)) ggX9_judge_X1_inForce
set_option maxRecDepth 20000 in
theorem ggX9_judge_X6_judgedBy : GoodIn wsX9_judge wsX6_judgedBy := goodIn_r _ [32, 33, 34, 35, 36, 17, 37, 38, 39, 40, 41, 42, 43, 44, 45, 46, 47, 48, 11, 12, 13, 49, 50, 51, 52, 53, 54, 55, 56, 57, 58, 59, 60, 61, 62, 90, 91, 92, 93, 94, 95, 96, 72, 73, 74, 75, 76, 77, 78, 79, 80, 81, 82, 83] (by decide +kernel) (by decide +kernel)
set_option maxRecDepth 20000 in
theorem gX9_judge_X6_judgedBy : GoodIn wsX9_judge (wsV RX9 202 RX6 yX6_judgedBy wsX6_judgedBy) := goodIn_app (goodIn_of _ (by decide +kernel)) ggX9_judge_X6_judgedBy
theorem dX9_judge_0 : decode cX9_judge 0 = .ok (.aload_n 0, 1) := by decide +kernel
theorem dX9_judge_1 : decode cX9_judge 1 = .ok (.getfield 30, 3) := by decide +kernel
theorem dX9_judge_4 : decode cX9_judge 4 = .ok (.iload_n 1, 1) := by decide +kernel
theorem dX9_judge_5 : decode cX9_judge 5 = .ok (.invokevirtual 165, 3) := by decide +kernel
theorem dX9_judge_8 : decode cX9_judge 8 = .ok (.astore_n 3, 1) := by decide +kernel
theorem dX9_judge_9 : decode cX9_judge 9 = .ok (.aload_n 3, 1) := by decide +kernel
theorem dX9_judge_10 : decode cX9_judge 10 = .ok (.ifnull 10, 3) := by decide +kernel
theorem dX9_judge_13 : decode cX9_judge 13 = .ok (.aload_n 3, 1) := by decide +kernel
theorem dX9_judge_14 : decode cX9_judge 14 = .ok (.invokevirtual 173, 3) := by decide +kernel
theorem dX9_judge_17 : decode cX9_judge 17 = .ok (.ifCond .ne 5, 3) := by decide +kernel
theorem dX9_judge_20 : decode cX9_judge 20 = .ok (.iconst (-1), 1) := by decide +kernel
theorem dX9_judge_21 : decode cX9_judge 21 = .ok (.ireturn, 1) := by decide +kernel
theorem dX9_judge_22 : decode cX9_judge 22 = .ok (.aload_n 3, 1) := by decide +kernel
theorem dX9_judge_23 : decode cX9_judge 23 = .ok (.aload_n 0, 1) := by decide +kernel
theorem dX9_judge_24 : decode cX9_judge 24 = .ok (.getfield 53, 3) := by decide +kernel
theorem dX9_judge_27 : decode cX9_judge 27 = .ok (.aload_n 3, 1) := by decide +kernel
theorem dX9_judge_28 : decode cX9_judge 28 = .ok (.getfield 199, 3) := by decide +kernel
theorem dX9_judge_31 : decode cX9_judge 31 = .ok (.invokevirtual 157, 3) := by decide +kernel
theorem dX9_judge_34 : decode cX9_judge 34 = .ok (.iload_n 2, 1) := by decide +kernel
theorem dX9_judge_35 : decode cX9_judge 35 = .ok (.invokevirtual 202, 3) := by decide +kernel
theorem dX9_judge_38 : decode cX9_judge 38 = .ok (.ireturn, 1) := by decide +kernel
set_option maxRecDepth 20000 in
theorem ggX9_reach_X0_hasReach : GoodIn wsX9_reach wsX0_hasReach := goodIn_r _ [10, 11, 12, 13, 14, 47, 48, 49, 50, 51, 52, 53, 54, 55] (by decide +kernel) (by decide +kernel)
set_option maxRecDepth 20000 in
theorem gX9_reach_X0_hasReach : GoodIn wsX9_reach (wsV RX9 78 RX0 yX0_hasReach wsX0_hasReach) := goodIn_app (goodIn_of _ (by decide +kernel)) ggX9_reach_X0_hasReach
set_option maxRecDepth 20000 in
theorem ggX9_reach_X3_boatsIn : GoodIn wsX9_reach wsX3_boatsIn := goodIn_r _ [19, 20, 21, 22, 23, 24, 25, 18, 26, 27, 12, 13, 14, 56, 57, 58, 59, 60, 61, 62, 63, 64, 65, 66, 67, 68, 69, 70] (by decide +kernel) (by decide +kernel)
set_option maxRecDepth 20000 in
theorem gX9_reach_X3_boatsIn : GoodIn wsX9_reach (wsV RX9 206 RX3 yX3_boatsIn wsX3_boatsIn) := goodIn_app (goodIn_of _ (by decide +kernel)) ggX9_reach_X3_boatsIn
set_option maxRecDepth 20000 in
theorem ggX9_reach_X0_isIcy : GoodIn wsX9_reach wsX0_isIcy := goodIn_r _ [31, 32, 33, 47, 48, 49, 50, 51, 52, 53, 54, 55] (by decide +kernel) (by decide +kernel)
set_option maxRecDepth 20000 in
theorem gX9_reach_X0_isIcy : GoodIn wsX9_reach (wsV RX9 209 RX0 yX0_isIcy wsX0_isIcy) := goodIn_app (goodIn_of _ (by decide +kernel)) ggX9_reach_X0_isIcy
set_option maxRecDepth 20000 in
theorem ggX9_reach_X0_hasLock : GoodIn wsX9_reach wsX0_hasLock := goodIn_r _ [37, 11, 12, 13, 14, 47, 48, 49, 50, 51, 52, 53, 54, 55] (by decide +kernel) (by decide +kernel)
set_option maxRecDepth 20000 in
theorem gX9_reach_X0_hasLock : GoodIn wsX9_reach (wsV RX9 90 RX0 yX0_hasLock wsX0_hasLock) := goodIn_app (goodIn_of _ (by decide +kernel)) ggX9_reach_X0_hasLock
theorem dX9_reach_0 : decode cX9_reach 0 = .ok (.aload_n 0, 1) := by decide +kernel
theorem dX9_reach_1 : decode cX9_reach 1 = .ok (.getfield 23, 3) := by decide +kernel
theorem dX9_reach_4 : decode cX9_reach 4 = .ok (.iload_n 1, 1) := by decide +kernel
theorem dX9_reach_5 : decode cX9_reach 5 = .ok (.invokevirtual 78, 3) := by decide +kernel
theorem dX9_reach_8 : decode cX9_reach 8 = .ok (.ifCond .ne 5, 3) := by decide +kernel
theorem dX9_reach_11 : decode cX9_reach 11 = .ok (.iconst (-1), 1) := by decide +kernel
theorem dX9_reach_12 : decode cX9_reach 12 = .ok (.ireturn, 1) := by decide +kernel
theorem dX9_reach_13 : decode cX9_reach 13 = .ok (.iload_n 2, 1) := by decide +kernel
theorem dX9_reach_14 : decode cX9_reach 14 = .ok (.tableswitch 95 0 3 #[30, 40, 49, 70], 30) := by decide +kernel
theorem dX9_reach_44 : decode cX9_reach 44 = .ok (.aload_n 0, 1) := by decide +kernel
theorem dX9_reach_45 : decode cX9_reach 45 = .ok (.getfield 23, 3) := by decide +kernel
theorem dX9_reach_48 : decode cX9_reach 48 = .ok (.getfield 86, 3) := by decide +kernel
theorem dX9_reach_51 : decode cX9_reach 51 = .ok (.iload_n 1, 1) := by decide +kernel
theorem dX9_reach_52 : decode cX9_reach 52 = .ok (.iaload, 1) := by decide +kernel
theorem dX9_reach_53 : decode cX9_reach 53 = .ok (.ireturn, 1) := by decide +kernel
theorem dX9_reach_54 : decode cX9_reach 54 = .ok (.aload_n 0, 1) := by decide +kernel
theorem dX9_reach_55 : decode cX9_reach 55 = .ok (.getfield 30, 3) := by decide +kernel
theorem dX9_reach_58 : decode cX9_reach 58 = .ok (.iload_n 1, 1) := by decide +kernel
theorem dX9_reach_59 : decode cX9_reach 59 = .ok (.invokevirtual 206, 3) := by decide +kernel
theorem dX9_reach_62 : decode cX9_reach 62 = .ok (.ireturn, 1) := by decide +kernel
theorem dX9_reach_63 : decode cX9_reach 63 = .ok (.aload_n 0, 1) := by decide +kernel
theorem dX9_reach_64 : decode cX9_reach 64 = .ok (.getfield 23, 3) := by decide +kernel
theorem dX9_reach_67 : decode cX9_reach 67 = .ok (.iload_n 1, 1) := by decide +kernel
theorem dX9_reach_68 : decode cX9_reach 68 = .ok (.aload_n 0, 1) := by decide +kernel
theorem dX9_reach_69 : decode cX9_reach 69 = .ok (.getfield 71, 3) := by decide +kernel
theorem dX9_reach_72 : decode cX9_reach 72 = .ok (.invokevirtual 209, 3) := by decide +kernel
theorem dX9_reach_75 : decode cX9_reach 75 = .ok (.ifCond .eq 7, 3) := by decide +kernel
theorem dX9_reach_78 : decode cX9_reach 78 = .ok (.iconst 1, 1) := by decide +kernel
theorem dX9_reach_79 : decode cX9_reach 79 = .ok (.goto 4, 3) := by decide +kernel
theorem dX9_reach_82 : decode cX9_reach 82 = .ok (.iconst 0, 1) := by decide +kernel
theorem dX9_reach_83 : decode cX9_reach 83 = .ok (.ireturn, 1) := by decide +kernel
theorem dX9_reach_84 : decode cX9_reach 84 = .ok (.aload_n 0, 1) := by decide +kernel
theorem dX9_reach_85 : decode cX9_reach 85 = .ok (.getfield 23, 3) := by decide +kernel
theorem dX9_reach_88 : decode cX9_reach 88 = .ok (.iload_n 1, 1) := by decide +kernel
theorem dX9_reach_89 : decode cX9_reach 89 = .ok (.invokevirtual 90, 3) := by decide +kernel
theorem dX9_reach_92 : decode cX9_reach 92 = .ok (.ifCond .eq 15, 3) := by decide +kernel
theorem dX9_reach_95 : decode cX9_reach 95 = .ok (.aload_n 0, 1) := by decide +kernel
theorem dX9_reach_96 : decode cX9_reach 96 = .ok (.getfield 23, 3) := by decide +kernel
theorem dX9_reach_99 : decode cX9_reach 99 = .ok (.getfield 93, 3) := by decide +kernel
theorem dX9_reach_102 : decode cX9_reach 102 = .ok (.iload_n 1, 1) := by decide +kernel
theorem dX9_reach_103 : decode cX9_reach 103 = .ok (.iaload, 1) := by decide +kernel
theorem dX9_reach_104 : decode cX9_reach 104 = .ok (.goto 4, 3) := by decide +kernel
theorem dX9_reach_107 : decode cX9_reach 107 = .ok (.iconst (-1), 1) := by decide +kernel
theorem dX9_reach_108 : decode cX9_reach 108 = .ok (.ireturn, 1) := by decide +kernel
theorem dX9_reach_109 : decode cX9_reach 109 = .ok (.iconst (-1), 1) := by decide +kernel
theorem dX9_reach_110 : decode cX9_reach 110 = .ok (.ireturn, 1) := by decide +kernel
set_option maxRecDepth 20000 in
theorem ggX9_store_X0_hasLake : GoodIn wsX9_store wsX0_hasLake := goodIn_r _ [7, 8, 9, 10, 11, 21, 22, 23, 24, 25, 26, 27, 28, 29] (by decide +kernel) (by decide +kernel)
set_option maxRecDepth 20000 in
theorem gX9_store_X0_hasLake : GoodIn wsX9_store (wsV RX9 99 RX0 yX0_hasLake wsX0_hasLake) := goodIn_app (goodIn_of _ (by decide +kernel)) ggX9_store_X0_hasLake
theorem dX9_store_0 : decode cX9_store 0 = .ok (.aload_n 0, 1) := by decide +kernel
theorem dX9_store_1 : decode cX9_store 1 = .ok (.getfield 23, 3) := by decide +kernel
theorem dX9_store_4 : decode cX9_store 4 = .ok (.iload_n 1, 1) := by decide +kernel
theorem dX9_store_5 : decode cX9_store 5 = .ok (.invokevirtual 99, 3) := by decide +kernel
theorem dX9_store_8 : decode cX9_store 8 = .ok (.ifCond .eq 15, 3) := by decide +kernel
theorem dX9_store_11 : decode cX9_store 11 = .ok (.aload_n 0, 1) := by decide +kernel
theorem dX9_store_12 : decode cX9_store 12 = .ok (.getfield 23, 3) := by decide +kernel
theorem dX9_store_15 : decode cX9_store 15 = .ok (.getfield 213, 3) := by decide +kernel
theorem dX9_store_18 : decode cX9_store 18 = .ok (.iload_n 1, 1) := by decide +kernel
theorem dX9_store_19 : decode cX9_store 19 = .ok (.iaload, 1) := by decide +kernel
theorem dX9_store_20 : decode cX9_store 20 = .ok (.goto 4, 3) := by decide +kernel
theorem dX9_store_23 : decode cX9_store 23 = .ok (.iconst (-1), 1) := by decide +kernel
theorem dX9_store_24 : decode cX9_store 24 = .ok (.ireturn, 1) := by decide +kernel
set_option maxRecDepth 20000 in
theorem ggX9_allot_X9_isCounty : GoodIn wsX9_allot wsX9_isCounty := goodIn_r _ [6, 7, 8, 5, 9] (by decide +kernel) (by decide +kernel)
set_option maxRecDepth 20000 in
theorem gX9_allot_X9_isCounty : GoodIn wsX9_allot (va_wsS RX9 114 yX9_isCounty wsX9_isCounty) := goodIn_app (goodIn_of _ (by decide +kernel)) ggX9_allot_X9_isCounty
set_option maxRecDepth 20000 in
theorem ggX9_allot_X9_isWithin : GoodIn wsX9_allot wsX9_isWithin := goodIn_r _ [9] (by decide +kernel) (by decide +kernel)
set_option maxRecDepth 20000 in
theorem gX9_allot_X9_isWithin : GoodIn wsX9_allot (va_wsS RX9 82 yX9_isWithin wsX9_isWithin) := goodIn_app (goodIn_of _ (by decide +kernel)) ggX9_allot_X9_isWithin
theorem dX9_allot_0 : decode cX9_allot 0 = .ok (.iload_n 1, 1) := by decide +kernel
theorem dX9_allot_1 : decode cX9_allot 1 = .ok (.invokestatic 114, 3) := by decide +kernel
theorem dX9_allot_4 : decode cX9_allot 4 = .ok (.ifCond .eq 14, 3) := by decide +kernel
theorem dX9_allot_7 : decode cX9_allot 7 = .ok (.iload_n 2, 1) := by decide +kernel
theorem dX9_allot_8 : decode cX9_allot 8 = .ok (.iconst 0, 1) := by decide +kernel
theorem dX9_allot_9 : decode cX9_allot 9 = .ok (.sipush 10000, 3) := by decide +kernel
theorem dX9_allot_12 : decode cX9_allot 12 = .ok (.invokestatic 82, 3) := by decide +kernel
theorem dX9_allot_15 : decode cX9_allot 15 = .ok (.ifCond .ne 5, 3) := by decide +kernel
theorem dX9_allot_18 : decode cX9_allot 18 = .ok (.iconst 0, 1) := by decide +kernel
theorem dX9_allot_19 : decode cX9_allot 19 = .ok (.ireturn, 1) := by decide +kernel
theorem dX9_allot_20 : decode cX9_allot 20 = .ok (.aload_n 0, 1) := by decide +kernel
theorem dX9_allot_21 : decode cX9_allot 21 = .ok (.getfield 60, 3) := by decide +kernel
theorem dX9_allot_24 : decode cX9_allot 24 = .ok (.getfield 216, 3) := by decide +kernel
theorem dX9_allot_27 : decode cX9_allot 27 = .ok (.iload_n 1, 1) := by decide +kernel
theorem dX9_allot_28 : decode cX9_allot 28 = .ok (.iload_n 2, 1) := by decide +kernel
theorem dX9_allot_29 : decode cX9_allot 29 = .ok (.iastore, 1) := by decide +kernel
theorem dX9_allot_30 : decode cX9_allot 30 = .ok (.iconst 1, 1) := by decide +kernel
theorem dX9_allot_31 : decode cX9_allot 31 = .ok (.ireturn, 1) := by decide +kernel
set_option maxRecDepth 20000 in
theorem ggX9_rate_X9_isWithin : GoodIn wsX9_rate wsX9_isWithin := goodIn_r _ [6] (by decide +kernel) (by decide +kernel)
set_option maxRecDepth 20000 in
theorem gX9_rate_X9_isWithin : GoodIn wsX9_rate (va_wsS RX9 82 yX9_isWithin wsX9_isWithin) := goodIn_app (goodIn_of _ (by decide +kernel)) ggX9_rate_X9_isWithin
theorem dX9_rate_0 : decode cX9_rate 0 = .ok (.iload_n 1, 1) := by decide +kernel
theorem dX9_rate_1 : decode cX9_rate 1 = .ok (.iconst 0, 1) := by decide +kernel
theorem dX9_rate_2 : decode cX9_rate 2 = .ok (.bipush 100, 2) := by decide +kernel
theorem dX9_rate_4 : decode cX9_rate 4 = .ok (.invokestatic 82, 3) := by decide +kernel
theorem dX9_rate_7 : decode cX9_rate 7 = .ok (.ifCond .ne 5, 3) := by decide +kernel
theorem dX9_rate_10 : decode cX9_rate 10 = .ok (.iconst 0, 1) := by decide +kernel
theorem dX9_rate_11 : decode cX9_rate 11 = .ok (.ireturn, 1) := by decide +kernel
theorem dX9_rate_12 : decode cX9_rate 12 = .ok (.aload_n 0, 1) := by decide +kernel
theorem dX9_rate_13 : decode cX9_rate 13 = .ok (.getfield 60, 3) := by decide +kernel
theorem dX9_rate_16 : decode cX9_rate 16 = .ok (.iload_n 1, 1) := by decide +kernel
theorem dX9_rate_17 : decode cX9_rate 17 = .ok (.putfield 219, 3) := by decide +kernel
theorem dX9_rate_20 : decode cX9_rate 20 = .ok (.iconst 1, 1) := by decide +kernel
theorem dX9_rate_21 : decode cX9_rate 21 = .ok (.ireturn, 1) := by decide +kernel
set_option maxRecDepth 20000 in
theorem ggX9_commute_X9_isCounty : GoodIn wsX9_commute wsX9_isCounty := goodIn_r _ [5, 6, 7, 4, 8] (by decide +kernel) (by decide +kernel)
set_option maxRecDepth 20000 in
theorem gX9_commute_X9_isCounty : GoodIn wsX9_commute (va_wsS RX9 114 yX9_isCounty wsX9_isCounty) := goodIn_app (goodIn_of _ (by decide +kernel)) ggX9_commute_X9_isCounty
set_option maxRecDepth 20000 in
theorem ggX9_commute_X2_leftToCommute : GoodIn wsX9_commute wsX2_leftToCommute := goodIn_r _ [13, 14, 15, 3, 4, 5, 6, 7, 8, 31, 32, 33, 34] (by decide +kernel) (by decide +kernel)
set_option maxRecDepth 20000 in
theorem gX9_commute_X2_leftToCommute : GoodIn wsX9_commute (wsV RX9 222 RX2 yX2_leftToCommute wsX2_leftToCommute) := goodIn_app (goodIn_of _ (by decide +kernel)) ggX9_commute_X2_leftToCommute
set_option maxRecDepth 20000 in
theorem ggX9_commute_X9_isWithin : GoodIn wsX9_commute wsX9_isWithin := goodIn_r _ [8] (by decide +kernel) (by decide +kernel)
set_option maxRecDepth 20000 in
theorem gX9_commute_X9_isWithin : GoodIn wsX9_commute (va_wsS RX9 82 yX9_isWithin wsX9_isWithin) := goodIn_app (goodIn_of _ (by decide +kernel)) ggX9_commute_X9_isWithin
set_option maxRecDepth 20000 in
theorem ggX9_commute_X2_payFor : GoodIn wsX9_commute wsX2_payFor := goodIn_r _ [19, 20, 15, 21, 3, 4, 5, 6, 7, 8, 31, 32, 33, 34] (by decide +kernel) (by decide +kernel)
set_option maxRecDepth 20000 in
theorem gX9_commute_X2_payFor : GoodIn wsX9_commute (wsV RX9 225 RX2 yX2_payFor wsX2_payFor) := goodIn_app (goodIn_of _ (by decide +kernel)) ggX9_commute_X2_payFor
theorem dX9_commute_0 : decode cX9_commute 0 = .ok (.iload_n 1, 1) := by decide +kernel
theorem dX9_commute_1 : decode cX9_commute 1 = .ok (.invokestatic 114, 3) := by decide +kernel
theorem dX9_commute_4 : decode cX9_commute 4 = .ok (.ifCond .eq 19, 3) := by decide +kernel
theorem dX9_commute_7 : decode cX9_commute 7 = .ok (.iload_n 2, 1) := by decide +kernel
theorem dX9_commute_8 : decode cX9_commute 8 = .ok (.iconst 1, 1) := by decide +kernel
theorem dX9_commute_9 : decode cX9_commute 9 = .ok (.aload_n 0, 1) := by decide +kernel
theorem dX9_commute_10 : decode cX9_commute 10 = .ok (.getfield 60, 3) := by decide +kernel
theorem dX9_commute_13 : decode cX9_commute 13 = .ok (.iload_n 1, 1) := by decide +kernel
theorem dX9_commute_14 : decode cX9_commute 14 = .ok (.invokevirtual 222, 3) := by decide +kernel
theorem dX9_commute_17 : decode cX9_commute 17 = .ok (.invokestatic 82, 3) := by decide +kernel
theorem dX9_commute_20 : decode cX9_commute 20 = .ok (.ifCond .ne 5, 3) := by decide +kernel
theorem dX9_commute_23 : decode cX9_commute 23 = .ok (.iconst (-1), 1) := by decide +kernel
theorem dX9_commute_24 : decode cX9_commute 24 = .ok (.ireturn, 1) := by decide +kernel
theorem dX9_commute_25 : decode cX9_commute 25 = .ok (.aload_n 0, 1) := by decide +kernel
theorem dX9_commute_26 : decode cX9_commute 26 = .ok (.getfield 60, 3) := by decide +kernel
theorem dX9_commute_29 : decode cX9_commute 29 = .ok (.iload_n 1, 1) := by decide +kernel
theorem dX9_commute_30 : decode cX9_commute 30 = .ok (.iload_n 2, 1) := by decide +kernel
theorem dX9_commute_31 : decode cX9_commute 31 = .ok (.invokevirtual 225, 3) := by decide +kernel
theorem dX9_commute_34 : decode cX9_commute 34 = .ok (.ireturn, 1) := by decide +kernel
set_option maxRecDepth 20000 in
theorem ggX9_county_X9_isCounty : GoodIn wsX9_county wsX9_isCounty := goodIn_r _ [10, 11, 12, 9, 13] (by decide +kernel) (by decide +kernel)
set_option maxRecDepth 20000 in
theorem gX9_county_X9_isCounty : GoodIn wsX9_county (va_wsS RX9 114 yX9_isCounty wsX9_isCounty) := goodIn_app (goodIn_of _ (by decide +kernel)) ggX9_county_X9_isCounty
set_option maxRecDepth 20000 in
theorem ggX9_county_X3_bagsComeOf : GoodIn wsX9_county wsX3_bagsComeOf := goodIn_r _ [18, 19, 20, 21, 22, 23, 17, 24, 25, 26, 9, 27, 28, 29, 30, 31, 32, 33, 34, 35, 36, 37, 38, 39, 60, 61, 62, 63, 64, 65, 66, 67, 68, 69, 70, 71, 72, 73, 74] (by decide +kernel) (by decide +kernel)
set_option maxRecDepth 20000 in
theorem gX9_county_X3_bagsComeOf : GoodIn wsX9_county (wsV RX9 235 RX3 yX3_bagsComeOf wsX3_bagsComeOf) := goodIn_app (goodIn_of _ (by decide +kernel)) ggX9_county_X3_bagsComeOf
set_option maxRecDepth 20000 in
theorem ggX9_county_X2_leftToCommute : GoodIn wsX9_county wsX2_leftToCommute := goodIn_r _ [44, 45, 46, 8, 9, 10, 11, 12, 13, 56, 57, 58, 59] (by decide +kernel) (by decide +kernel)
set_option maxRecDepth 20000 in
theorem gX9_county_X2_leftToCommute : GoodIn wsX9_county (wsV RX9 222 RX2 yX2_leftToCommute wsX2_leftToCommute) := goodIn_app (goodIn_of _ (by decide +kernel)) ggX9_county_X2_leftToCommute
theorem dX9_county_0 : decode cX9_county 0 = .ok (.iload_n 1, 1) := by decide +kernel
theorem dX9_county_1 : decode cX9_county 1 = .ok (.invokestatic 114, 3) := by decide +kernel
theorem dX9_county_4 : decode cX9_county 4 = .ok (.ifCond .ne 6, 3) := by decide +kernel
theorem dX9_county_7 : decode cX9_county 7 = .ok (.ldc 228, 2) := by decide +kernel
theorem dX9_county_9 : decode cX9_county 9 = .ok (.ireturn, 1) := by decide +kernel
theorem dX9_county_10 : decode cX9_county 10 = .ok (.iload_n 2, 1) := by decide +kernel
theorem dX9_county_11 : decode cX9_county 11 = .ok (.tableswitch 90 0 4 #[33, 43, 53, 63, 72], 33) := by decide +kernel
theorem dX9_county_44 : decode cX9_county 44 = .ok (.aload_n 0, 1) := by decide +kernel
theorem dX9_county_45 : decode cX9_county 45 = .ok (.getfield 60, 3) := by decide +kernel
theorem dX9_county_48 : decode cX9_county 48 = .ok (.getfield 216, 3) := by decide +kernel
theorem dX9_county_51 : decode cX9_county 51 = .ok (.iload_n 1, 1) := by decide +kernel
theorem dX9_county_52 : decode cX9_county 52 = .ok (.iaload, 1) := by decide +kernel
theorem dX9_county_53 : decode cX9_county 53 = .ok (.ireturn, 1) := by decide +kernel
theorem dX9_county_54 : decode cX9_county 54 = .ok (.aload_n 0, 1) := by decide +kernel
theorem dX9_county_55 : decode cX9_county 55 = .ok (.getfield 60, 3) := by decide +kernel
theorem dX9_county_58 : decode cX9_county 58 = .ok (.getfield 229, 3) := by decide +kernel
theorem dX9_county_61 : decode cX9_county 61 = .ok (.iload_n 1, 1) := by decide +kernel
theorem dX9_county_62 : decode cX9_county 62 = .ok (.iaload, 1) := by decide +kernel
theorem dX9_county_63 : decode cX9_county 63 = .ok (.ireturn, 1) := by decide +kernel
theorem dX9_county_64 : decode cX9_county 64 = .ok (.aload_n 0, 1) := by decide +kernel
theorem dX9_county_65 : decode cX9_county 65 = .ok (.getfield 60, 3) := by decide +kernel
theorem dX9_county_68 : decode cX9_county 68 = .ok (.getfield 232, 3) := by decide +kernel
theorem dX9_county_71 : decode cX9_county 71 = .ok (.iload_n 1, 1) := by decide +kernel
theorem dX9_county_72 : decode cX9_county 72 = .ok (.iaload, 1) := by decide +kernel
theorem dX9_county_73 : decode cX9_county 73 = .ok (.ireturn, 1) := by decide +kernel
theorem dX9_county_74 : decode cX9_county 74 = .ok (.aload_n 0, 1) := by decide +kernel
theorem dX9_county_75 : decode cX9_county 75 = .ok (.getfield 30, 3) := by decide +kernel
theorem dX9_county_78 : decode cX9_county 78 = .ok (.iload_n 1, 1) := by decide +kernel
theorem dX9_county_79 : decode cX9_county 79 = .ok (.invokevirtual 235, 3) := by decide +kernel
theorem dX9_county_82 : decode cX9_county 82 = .ok (.ireturn, 1) := by decide +kernel
theorem dX9_county_83 : decode cX9_county 83 = .ok (.aload_n 0, 1) := by decide +kernel
theorem dX9_county_84 : decode cX9_county 84 = .ok (.getfield 60, 3) := by decide +kernel
theorem dX9_county_87 : decode cX9_county 87 = .ok (.iload_n 1, 1) := by decide +kernel
theorem dX9_county_88 : decode cX9_county 88 = .ok (.invokevirtual 222, 3) := by decide +kernel
theorem dX9_county_91 : decode cX9_county 91 = .ok (.aload_n 0, 1) := by decide +kernel
theorem dX9_county_92 : decode cX9_county 92 = .ok (.getfield 30, 3) := by decide +kernel
theorem dX9_county_95 : decode cX9_county 95 = .ok (.iload_n 1, 1) := by decide +kernel
theorem dX9_county_96 : decode cX9_county 96 = .ok (.invokevirtual 235, 3) := by decide +kernel
theorem dX9_county_99 : decode cX9_county 99 = .ok (.isub, 1) := by decide +kernel
theorem dX9_county_100 : decode cX9_county 100 = .ok (.ireturn, 1) := by decide +kernel
theorem dX9_county_101 : decode cX9_county 101 = .ok (.ldc 228, 2) := by decide +kernel
theorem dX9_county_103 : decode cX9_county 103 = .ok (.ireturn, 1) := by decide +kernel
set_option maxRecDepth 20000 in
theorem ggX9_due_X3_find : GoodIn wsX9_due wsX3_find := goodIn_r _ [7, 8, 9, 10, 11, 12, 40, 41, 42] (by decide +kernel) (by decide +kernel)
set_option maxRecDepth 20000 in
theorem gX9_due_X3_find : GoodIn wsX9_due (wsV RX9 165 RX3 yX3_find wsX3_find) := goodIn_app (goodIn_of _ (by decide +kernel)) ggX9_due_X3_find
set_option maxRecDepth 20000 in
theorem ggX9_due_X9_isDay : GoodIn wsX9_due wsX9_isDay := goodIn_r _ [15, 16, 17, 11, 18] (by decide +kernel) (by decide +kernel)
set_option maxRecDepth 20000 in
theorem gX9_due_X9_isDay : GoodIn wsX9_due (va_wsS RX9 105 yX9_isDay wsX9_isDay) := goodIn_app (goodIn_of _ (by decide +kernel)) ggX9_due_X9_isDay
theorem dX9_due_0 : decode cX9_due 0 = .ok (.aload_n 0, 1) := by decide +kernel
theorem dX9_due_1 : decode cX9_due 1 = .ok (.getfield 30, 3) := by decide +kernel
theorem dX9_due_4 : decode cX9_due 4 = .ok (.iload_n 1, 1) := by decide +kernel
theorem dX9_due_5 : decode cX9_due 5 = .ok (.invokevirtual 165, 3) := by decide +kernel
theorem dX9_due_8 : decode cX9_due 8 = .ok (.astore_n 3, 1) := by decide +kernel
theorem dX9_due_9 : decode cX9_due 9 = .ok (.aload_n 3, 1) := by decide +kernel
theorem dX9_due_10 : decode cX9_due 10 = .ok (.ifnull 10, 3) := by decide +kernel
theorem dX9_due_13 : decode cX9_due 13 = .ok (.iload_n 2, 1) := by decide +kernel
theorem dX9_due_14 : decode cX9_due 14 = .ok (.invokestatic 105, 3) := by decide +kernel
theorem dX9_due_17 : decode cX9_due 17 = .ok (.ifCond .ne 5, 3) := by decide +kernel
theorem dX9_due_20 : decode cX9_due 20 = .ok (.iconst 0, 1) := by decide +kernel
theorem dX9_due_21 : decode cX9_due 21 = .ok (.ireturn, 1) := by decide +kernel
theorem dX9_due_22 : decode cX9_due 22 = .ok (.aload_n 3, 1) := by decide +kernel
theorem dX9_due_23 : decode cX9_due 23 = .ok (.iload_n 2, 1) := by decide +kernel
theorem dX9_due_24 : decode cX9_due 24 = .ok (.putfield 238, 3) := by decide +kernel
theorem dX9_due_27 : decode cX9_due 27 = .ok (.iconst 1, 1) := by decide +kernel
theorem dX9_due_28 : decode cX9_due 28 = .ok (.ireturn, 1) := by decide +kernel
set_option maxRecDepth 20000 in
theorem ggX9_least_X3_hasAll : GoodIn wsX9_least wsX3_hasAll := goodIn_r _ [13, 14, 91, 92, 93] (by decide +kernel) (by decide +kernel)
set_option maxRecDepth 20000 in
theorem gX9_least_X3_hasAll : GoodIn wsX9_least (wsV RX9 241 RX3 yX3_hasAll wsX3_hasAll) := goodIn_app (goodIn_of _ (by decide +kernel)) ggX9_least_X3_hasAll
set_option maxRecDepth 20000 in
theorem ggX9_least_J6_bitCount_0f7a4 : GoodIn wsX9_least wsJ6_bitCount_0f7a4 := goodIn_r _ [18, 19, 20, 21] (by decide +kernel) (by decide +kernel)
set_option maxRecDepth 20000 in
theorem gX9_least_J6_bitCount_0f7a4 : GoodIn wsX9_least (va_wsS RX9 244 yJ6_bitCount_0f7a4 wsJ6_bitCount_0f7a4) := goodIn_app (goodIn_of _ (by decide +kernel)) ggX9_least_J6_bitCount_0f7a4
set_option maxRecDepth 20000 in
theorem ggX9_least_X0_hasLock : GoodIn wsX9_least wsX0_hasLock := goodIn_r _ [26, 27, 28, 29, 30, 106, 107, 108, 109, 110, 111, 112, 113, 114] (by decide +kernel) (by decide +kernel)
set_option maxRecDepth 20000 in
theorem gX9_least_X0_hasLock : GoodIn wsX9_least (wsV RX9 90 RX0 yX0_hasLock wsX0_hasLock) := goodIn_app (goodIn_of _ (by decide +kernel)) ggX9_least_X0_hasLock
set_option maxRecDepth 20000 in
theorem ggX9_least_X5_clear : GoodIn wsX9_least wsX5_clear := goodIn_r _ [35, 36, 115, 116, 117, 118, 119, 120] (by decide +kernel) (by decide +kernel)
set_option maxRecDepth 20000 in
theorem gX9_least_X5_clear : GoodIn wsX9_least (wsV RX9 249 RX5 yX5_clear wsX5_clear) := goodIn_app (goodIn_of _ (by decide +kernel)) ggX9_least_X5_clear
set_option maxRecDepth 20000 in
theorem ggX9_least_X3_find : GoodIn wsX9_least wsX3_find := goodIn_r _ [40, 14, 41, 28, 29, 30, 91, 92, 93] (by decide +kernel) (by decide +kernel)
set_option maxRecDepth 20000 in
theorem gX9_least_X3_find : GoodIn wsX9_least (wsV RX9 165 RX3 yX3_find wsX3_find) := goodIn_app (goodIn_of _ (by decide +kernel)) ggX9_least_X3_find
set_option maxRecDepth 20000 in
theorem ggX9_least_X9_daysToPass : GoodIn wsX9_least wsX9_daysToPass := goodIn_r _ [44] (by decide +kernel) (by decide +kernel)
set_option maxRecDepth 20000 in
theorem gX9_least_X9_daysToPass : GoodIn wsX9_least (va_wsS RX9 256 yX9_daysToPass wsX9_daysToPass) := goodIn_app (goodIn_of _ (by decide +kernel)) ggX9_least_X9_daysToPass
set_option maxRecDepth 20000 in
theorem ggX9_least_X5_add : GoodIn wsX9_least wsX5_add := goodIn_r _ [48, 36, 49, 50, 51, 115, 116, 117, 118, 119, 120] (by decide +kernel) (by decide +kernel)
set_option maxRecDepth 20000 in
theorem gX9_least_X5_add : GoodIn wsX9_least (wsV RX9 259 RX5 yX5_add wsX5_add) := goodIn_app (goodIn_of _ (by decide +kernel)) ggX9_least_X5_add
set_option maxRecDepth 20000 in
theorem ggX9_least_X5_weigh : GoodIn wsX9_least wsX5_weigh := goodIn_r _ [55, 56, 36, 57, 58, 59, 60, 34, 61, 62, 63, 64, 65, 51, 66, 67, 68, 69, 28, 29, 30, 70, 71, 72, 73, 50, 115, 116, 117, 118, 119, 120] (by decide +kernel) (by decide +kernel)
set_option maxRecDepth 20000 in
theorem gX9_least_X5_weigh : GoodIn wsX9_least (wsV RX9 261 RX5 yX5_weigh wsX5_weigh) := goodIn_app (goodIn_of _ (by decide +kernel)) ggX9_least_X5_weigh
set_option maxRecDepth 20000 in
theorem ggX9_least_X5_leastSum : GoodIn wsX9_least wsX5_leastSum := goodIn_r _ [77, 57, 115, 116, 117, 118, 119, 120] (by decide +kernel) (by decide +kernel)
set_option maxRecDepth 20000 in
theorem gX9_least_X5_leastSum : GoodIn wsX9_least (wsV RX9 264 RX5 yX5_leastSum wsX5_leastSum) := goodIn_app (goodIn_of _ (by decide +kernel)) ggX9_least_X5_leastSum
set_option maxRecDepth 20000 in
theorem ggX9_least_X5_inPlace : GoodIn wsX9_least wsX5_inPlace := goodIn_r _ [81, 36, 49, 28, 29, 30, 58, 59, 60, 34, 61, 62, 63, 64, 65, 57, 51, 66, 67, 68, 69, 70, 71, 72, 73, 56, 50, 115, 116, 117, 118, 119, 120] (by decide +kernel) (by decide +kernel)
set_option maxRecDepth 20000 in
theorem gX9_least_X5_inPlace : GoodIn wsX9_least (wsV RX9 267 RX5 yX5_inPlace wsX5_inPlace) := goodIn_app (goodIn_of _ (by decide +kernel)) ggX9_least_X5_inPlace
theorem dX9_least_0 : decode cX9_least 0 = .ok (.aload_n 0, 1) := by decide +kernel
theorem dX9_least_1 : decode cX9_least 1 = .ok (.getfield 30, 3) := by decide +kernel
theorem dX9_least_4 : decode cX9_least 4 = .ok (.iload_n 1, 1) := by decide +kernel
theorem dX9_least_5 : decode cX9_least 5 = .ok (.invokevirtual 241, 3) := by decide +kernel
theorem dX9_least_8 : decode cX9_least 8 = .ok (.ifCond .eq 23, 3) := by decide +kernel
theorem dX9_least_11 : decode cX9_least 11 = .ok (.iload_n 1, 1) := by decide +kernel
theorem dX9_least_12 : decode cX9_least 12 = .ok (.invokestatic 244, 3) := by decide +kernel
theorem dX9_least_15 : decode cX9_least 15 = .ok (.bipush 6, 2) := by decide +kernel
theorem dX9_least_17 : decode cX9_least 17 = .ok (.if_icmp .gt 14, 3) := by decide +kernel
theorem dX9_least_20 : decode cX9_least 20 = .ok (.aload_n 0, 1) := by decide +kernel
theorem dX9_least_21 : decode cX9_least 21 = .ok (.getfield 23, 3) := by decide +kernel
theorem dX9_least_24 : decode cX9_least 24 = .ok (.iload_n 2, 1) := by decide +kernel
theorem dX9_least_25 : decode cX9_least 25 = .ok (.invokevirtual 90, 3) := by decide +kernel
theorem dX9_least_28 : decode cX9_least 28 = .ok (.ifCond .ne 5, 3) := by decide +kernel
theorem dX9_least_31 : decode cX9_least 31 = .ok (.iconst (-1), 1) := by decide +kernel
theorem dX9_least_32 : decode cX9_least 32 = .ok (.ireturn, 1) := by decide +kernel
theorem dX9_least_33 : decode cX9_least 33 = .ok (.aload_n 0, 1) := by decide +kernel
theorem dX9_least_34 : decode cX9_least 34 = .ok (.getfield 67, 3) := by decide +kernel
theorem dX9_least_37 : decode cX9_least 37 = .ok (.invokevirtual 249, 3) := by decide +kernel
theorem dX9_least_40 : decode cX9_least 40 = .ok (.iconst 0, 1) := by decide +kernel
theorem dX9_least_41 : decode cX9_least 41 = .ok (.istore 4, 2) := by decide +kernel
theorem dX9_least_43 : decode cX9_least 43 = .ok (.iload 4, 2) := by decide +kernel
theorem dX9_least_45 : decode cX9_least 45 = .ok (.aload_n 0, 1) := by decide +kernel
theorem dX9_least_46 : decode cX9_least 46 = .ok (.getfield 30, 3) := by decide +kernel
theorem dX9_least_49 : decode cX9_least 49 = .ok (.getfield 252, 3) := by decide +kernel
theorem dX9_least_52 : decode cX9_least 52 = .ok (.if_icmp .ge 66, 3) := by decide +kernel
theorem dX9_least_55 : decode cX9_least 55 = .ok (.aload_n 0, 1) := by decide +kernel
theorem dX9_least_56 : decode cX9_least 56 = .ok (.getfield 30, 3) := by decide +kernel
theorem dX9_least_59 : decode cX9_least 59 = .ok (.iload 4, 2) := by decide +kernel
theorem dX9_least_61 : decode cX9_least 61 = .ok (.invokevirtual 165, 3) := by decide +kernel
theorem dX9_least_64 : decode cX9_least 64 = .ok (.astore 5, 2) := by decide +kernel
theorem dX9_least_66 : decode cX9_least 66 = .ok (.aload 5, 2) := by decide +kernel
theorem dX9_least_68 : decode cX9_least 68 = .ok (.ifnull 44, 3) := by decide +kernel
theorem dX9_least_71 : decode cX9_least 71 = .ok (.iload_n 1, 1) := by decide +kernel
theorem dX9_least_72 : decode cX9_least 72 = .ok (.iload 4, 2) := by decide +kernel
theorem dX9_least_74 : decode cX9_least 74 = .ok (.ishr, 1) := by decide +kernel
theorem dX9_least_75 : decode cX9_least 75 = .ok (.iconst 1, 1) := by decide +kernel
theorem dX9_least_76 : decode cX9_least 76 = .ok (.iand, 1) := by decide +kernel
theorem dX9_least_77 : decode cX9_least 77 = .ok (.iconst 1, 1) := by decide +kernel
theorem dX9_least_78 : decode cX9_least 78 = .ok (.if_icmp .ne 34, 3) := by decide +kernel
theorem dX9_least_81 : decode cX9_least 81 = .ok (.aload_n 0, 1) := by decide +kernel
theorem dX9_least_82 : decode cX9_least 82 = .ok (.getfield 67, 3) := by decide +kernel
theorem dX9_least_85 : decode cX9_least 85 = .ok (.iload 4, 2) := by decide +kernel
theorem dX9_least_87 : decode cX9_least 87 = .ok (.aload 5, 2) := by decide +kernel
theorem dX9_least_89 : decode cX9_least 89 = .ok (.getfield 253, 3) := by decide +kernel
theorem dX9_least_92 : decode cX9_least 92 = .ok (.aload_n 0, 1) := by decide +kernel
theorem dX9_least_93 : decode cX9_least 93 = .ok (.getfield 23, 3) := by decide +kernel
theorem dX9_least_96 : decode cX9_least 96 = .ok (.getfield 93, 3) := by decide +kernel
theorem dX9_least_99 : decode cX9_least 99 = .ok (.iload_n 2, 1) := by decide +kernel
theorem dX9_least_100 : decode cX9_least 100 = .ok (.iaload, 1) := by decide +kernel
theorem dX9_least_101 : decode cX9_least 101 = .ok (.invokestatic 256, 3) := by decide +kernel
theorem dX9_least_104 : decode cX9_least 104 = .ok (.aload 5, 2) := by decide +kernel
theorem dX9_least_106 : decode cX9_least 106 = .ok (.getfield 238, 3) := by decide +kernel
theorem dX9_least_109 : decode cX9_least 109 = .ok (.invokevirtual 259, 3) := by decide +kernel
theorem dX9_least_112 : decode cX9_least 112 = .ok (.iinc 4 1, 3) := by decide +kernel
theorem dX9_least_115 : decode cX9_least 115 = .ok (.goto (-72), 3) := by decide +kernel
theorem dX9_least_118 : decode cX9_least 118 = .ok (.aload_n 0, 1) := by decide +kernel
theorem dX9_least_119 : decode cX9_least 119 = .ok (.getfield 67, 3) := by decide +kernel
theorem dX9_least_122 : decode cX9_least 122 = .ok (.aload_n 0, 1) := by decide +kernel
theorem dX9_least_123 : decode cX9_least 123 = .ok (.getfield 71, 3) := by decide +kernel
theorem dX9_least_126 : decode cX9_least 126 = .ok (.invokevirtual 261, 3) := by decide +kernel
theorem dX9_least_129 : decode cX9_least 129 = .ok (.iload_n 3, 1) := by decide +kernel
theorem dX9_least_130 : decode cX9_least 130 = .ok (.iconst (-1), 1) := by decide +kernel
theorem dX9_least_131 : decode cX9_least 131 = .ok (.if_icmp .ne 13, 3) := by decide +kernel
theorem dX9_least_134 : decode cX9_least 134 = .ok (.aload_n 0, 1) := by decide +kernel
theorem dX9_least_135 : decode cX9_least 135 = .ok (.getfield 67, 3) := by decide +kernel
theorem dX9_least_138 : decode cX9_least 138 = .ok (.invokevirtual 264, 3) := by decide +kernel
theorem dX9_least_141 : decode cX9_least 141 = .ok (.goto 11, 3) := by decide +kernel
theorem dX9_least_144 : decode cX9_least 144 = .ok (.aload_n 0, 1) := by decide +kernel
theorem dX9_least_145 : decode cX9_least 145 = .ok (.getfield 67, 3) := by decide +kernel
theorem dX9_least_148 : decode cX9_least 148 = .ok (.iload_n 3, 1) := by decide +kernel
theorem dX9_least_149 : decode cX9_least 149 = .ok (.invokevirtual 267, 3) := by decide +kernel
theorem dX9_least_152 : decode cX9_least 152 = .ok (.ireturn, 1) := by decide +kernel
set_option maxRecDepth 20000 in
theorem ggX9_count_X3_come : GoodIn wsX9_count wsX3_come := goodIn_r _ [15, 16, 17, 18, 19, 14, 20, 21, 22, 23, 24, 25, 26, 27, 28, 29, 30, 40, 41, 42, 57, 58, 59, 60, 61, 62, 63, 64, 65, 66, 67, 68] (by decide +kernel) (by decide +kernel)
set_option maxRecDepth 20000 in
theorem gX9_count_X3_come : GoodIn wsX9_count (wsV RX9 273 RX3 yX3_come wsX3_come) := goodIn_app (goodIn_of _ (by decide +kernel)) ggX9_count_X3_come
theorem dX9_count_0 : decode cX9_count 0 = .ok (.iload_n 1, 1) := by decide +kernel
theorem dX9_count_1 : decode cX9_count 1 = .ok (.tableswitch 96 0 6 #[43, 48, 56, 64, 72, 80, 88], 43) := by decide +kernel
theorem dX9_count_44 : decode cX9_count 44 = .ok (.aload_n 0, 1) := by decide +kernel
theorem dX9_count_45 : decode cX9_count 45 = .ok (.getfield 71, 3) := by decide +kernel
theorem dX9_count_48 : decode cX9_count 48 = .ok (.ireturn, 1) := by decide +kernel
theorem dX9_count_49 : decode cX9_count 49 = .ok (.aload_n 0, 1) := by decide +kernel
theorem dX9_count_50 : decode cX9_count 50 = .ok (.getfield 30, 3) := by decide +kernel
theorem dX9_count_53 : decode cX9_count 53 = .ok (.getfield 252, 3) := by decide +kernel
theorem dX9_count_56 : decode cX9_count 56 = .ok (.ireturn, 1) := by decide +kernel
theorem dX9_count_57 : decode cX9_count 57 = .ok (.aload_n 0, 1) := by decide +kernel
theorem dX9_count_58 : decode cX9_count 58 = .ok (.getfield 23, 3) := by decide +kernel
theorem dX9_count_61 : decode cX9_count 61 = .ok (.getfield 270, 3) := by decide +kernel
theorem dX9_count_64 : decode cX9_count 64 = .ok (.ireturn, 1) := by decide +kernel
theorem dX9_count_65 : decode cX9_count 65 = .ok (.aload_n 0, 1) := by decide +kernel
theorem dX9_count_66 : decode cX9_count 66 = .ok (.getfield 53, 3) := by decide +kernel
theorem dX9_count_69 : decode cX9_count 69 = .ok (.getfield 145, 3) := by decide +kernel
theorem dX9_count_72 : decode cX9_count 72 = .ok (.ireturn, 1) := by decide +kernel
theorem dX9_count_73 : decode cX9_count 73 = .ok (.aload_n 0, 1) := by decide +kernel
theorem dX9_count_74 : decode cX9_count 74 = .ok (.getfield 37, 3) := by decide +kernel
theorem dX9_count_77 : decode cX9_count 77 = .ok (.getfield 139, 3) := by decide +kernel
theorem dX9_count_80 : decode cX9_count 80 = .ok (.ireturn, 1) := by decide +kernel
theorem dX9_count_81 : decode cX9_count 81 = .ok (.aload_n 0, 1) := by decide +kernel
theorem dX9_count_82 : decode cX9_count 82 = .ok (.getfield 30, 3) := by decide +kernel
theorem dX9_count_85 : decode cX9_count 85 = .ok (.invokevirtual 273, 3) := by decide +kernel
theorem dX9_count_88 : decode cX9_count 88 = .ok (.ireturn, 1) := by decide +kernel
theorem dX9_count_89 : decode cX9_count 89 = .ok (.aload_n 0, 1) := by decide +kernel
theorem dX9_count_90 : decode cX9_count 90 = .ok (.getfield 23, 3) := by decide +kernel
theorem dX9_count_93 : decode cX9_count 93 = .ok (.getfield 123, 3) := by decide +kernel
theorem dX9_count_96 : decode cX9_count 96 = .ok (.ireturn, 1) := by decide +kernel
theorem dX9_count_97 : decode cX9_count 97 = .ok (.iconst (-1), 1) := by decide +kernel
theorem dX9_count_98 : decode cX9_count 98 = .ok (.ireturn, 1) := by decide +kernel
set_option maxRecDepth 20000 in
theorem ggX9_workLock_X0_boatsOf : GoodIn wsX9_workLock wsX0_boatsOf := goodIn_r _ [11, 12, 13, 14, 15, 10, 16, 17, 18, 19, 20, 99, 100, 101, 102, 103, 104, 105, 106, 107] (by decide +kernel) (by decide +kernel)
set_option maxRecDepth 20000 in
theorem gX9_workLock_X0_boatsOf : GoodIn wsX9_workLock (wsV RX9 276 RX0 yX0_boatsOf wsX0_boatsOf) := goodIn_app (goodIn_of _ (by decide +kernel)) ggX9_workLock_X0_boatsOf
set_option maxRecDepth 20000 in
theorem ggX9_workLock_X3_inLine : GoodIn wsX9_workLock wsX3_inLine := goodIn_r _ [25, 26, 18, 19, 20, 27, 28, 29, 24, 30, 31, 32, 84, 85, 86] (by decide +kernel) (by decide +kernel)
set_option maxRecDepth 20000 in
theorem gX9_workLock_X3_inLine : GoodIn wsX9_workLock (wsV RX9 279 RX3 yX3_inLine wsX3_inLine) := goodIn_app (goodIn_of _ (by decide +kernel)) ggX9_workLock_X3_inLine
set_option maxRecDepth 20000 in
theorem ggX9_workLock_X9_whatBars : GoodIn wsX9_workLock wsX9_whatBars := goodIn_r _ [36, 1, 4, 6, 5, 37, 38, 39, 40, 10, 41, 42, 43, 44, 45, 46, 47, 48, 49, 50, 51, 52, 17, 18, 19, 20, 75, 76, 77, 78, 79, 80, 81, 82, 83, 87, 88, 89, 90, 91, 92, 93, 94, 95, 96, 97, 98, 99, 100, 101, 102, 103, 104, 105, 106, 107] (by decide +kernel) (by decide +kernel)
set_option maxRecDepth 20000 in
theorem gX9_workLock_X9_whatBars : GoodIn wsX9_workLock (wsV RX9 285 RX9 yX9_whatBars wsX9_whatBars) := goodIn_app (goodIn_of _ (by decide +kernel)) ggX9_workLock_X9_whatBars
set_option maxRecDepth 20000 in
theorem ggX9_workLock_X0_letThrough : GoodIn wsX9_workLock wsX0_letThrough := goodIn_r _ [56, 48, 57, 58, 59, 60, 13, 14, 15, 10, 16, 17, 18, 19, 20, 99, 100, 101, 102, 103, 104, 105, 106, 107] (by decide +kernel) (by decide +kernel)
set_option maxRecDepth 20000 in
theorem gX9_workLock_X0_letThrough : GoodIn wsX9_workLock (wsV RX9 289 RX0 yX0_letThrough wsX0_letThrough) := goodIn_app (goodIn_of _ (by decide +kernel)) ggX9_workLock_X0_letThrough
set_option maxRecDepth 20000 in
theorem ggX9_workLock_X6_moveUp : GoodIn wsX9_workLock wsX6_moveUp := goodIn_r _ [65, 66, 67, 68, 87, 88, 89, 90, 91, 92, 93, 94, 95, 96, 97, 98] (by decide +kernel) (by decide +kernel)
set_option maxRecDepth 20000 in
theorem gX9_workLock_X6_moveUp : GoodIn wsX9_workLock (wsV RX9 293 RX6 yX6_moveUp wsX6_moveUp) := goodIn_app (goodIn_of _ (by decide +kernel)) ggX9_workLock_X6_moveUp
set_option maxRecDepth 20000 in
theorem ggX9_workLock_X6_stay : GoodIn wsX9_workLock wsX6_stay := goodIn_r _ [72, 73, 74, 18, 19, 20, 87, 88, 89, 90, 91, 92, 93, 94, 95, 96, 97, 98] (by decide +kernel) (by decide +kernel)
set_option maxRecDepth 20000 in
theorem gX9_workLock_X6_stay : GoodIn wsX9_workLock (wsV RX9 296 RX6 yX6_stay wsX6_stay) := goodIn_app (goodIn_of _ (by decide +kernel)) ggX9_workLock_X6_stay
theorem dX9_workLock_0 : decode cX9_workLock 0 = .ok (.aload_n 0, 1) := by decide +kernel
theorem dX9_workLock_1 : decode cX9_workLock 1 = .ok (.getfield 23, 3) := by decide +kernel
theorem dX9_workLock_4 : decode cX9_workLock 4 = .ok (.iload_n 1, 1) := by decide +kernel
theorem dX9_workLock_5 : decode cX9_workLock 5 = .ok (.invokevirtual 276, 3) := by decide +kernel
theorem dX9_workLock_8 : decode cX9_workLock 8 = .ok (.istore_n 2, 1) := by decide +kernel
theorem dX9_workLock_9 : decode cX9_workLock 9 = .ok (.iconst 0, 1) := by decide +kernel
theorem dX9_workLock_10 : decode cX9_workLock 10 = .ok (.istore_n 3, 1) := by decide +kernel
theorem dX9_workLock_11 : decode cX9_workLock 11 = .ok (.iconst 0, 1) := by decide +kernel
theorem dX9_workLock_12 : decode cX9_workLock 12 = .ok (.istore 4, 2) := by decide +kernel
theorem dX9_workLock_14 : decode cX9_workLock 14 = .ok (.iload 4, 2) := by decide +kernel
theorem dX9_workLock_16 : decode cX9_workLock 16 = .ok (.aload_n 0, 1) := by decide +kernel
theorem dX9_workLock_17 : decode cX9_workLock 17 = .ok (.getfield 30, 3) := by decide +kernel
theorem dX9_workLock_20 : decode cX9_workLock 20 = .ok (.getfield 252, 3) := by decide +kernel
theorem dX9_workLock_23 : decode cX9_workLock 23 = .ok (.if_icmp .ge 94, 3) := by decide +kernel
theorem dX9_workLock_26 : decode cX9_workLock 26 = .ok (.aload_n 0, 1) := by decide +kernel
theorem dX9_workLock_27 : decode cX9_workLock 27 = .ok (.getfield 30, 3) := by decide +kernel
theorem dX9_workLock_30 : decode cX9_workLock 30 = .ok (.iload 4, 2) := by decide +kernel
theorem dX9_workLock_32 : decode cX9_workLock 32 = .ok (.invokevirtual 279, 3) := by decide +kernel
theorem dX9_workLock_35 : decode cX9_workLock 35 = .ok (.astore 5, 2) := by decide +kernel
theorem dX9_workLock_37 : decode cX9_workLock 37 = .ok (.aload 5, 2) := by decide +kernel
theorem dX9_workLock_39 : decode cX9_workLock 39 = .ok (.ifnull 72, 3) := by decide +kernel
theorem dX9_workLock_42 : decode cX9_workLock 42 = .ok (.aload 5, 2) := by decide +kernel
theorem dX9_workLock_44 : decode cX9_workLock 44 = .ok (.getfield 282, 3) := by decide +kernel
theorem dX9_workLock_47 : decode cX9_workLock 47 = .ok (.iload_n 1, 1) := by decide +kernel
theorem dX9_workLock_48 : decode cX9_workLock 48 = .ok (.if_icmp .eq 6, 3) := by decide +kernel
theorem dX9_workLock_51 : decode cX9_workLock 51 = .ok (.goto 60, 3) := by decide +kernel
theorem dX9_workLock_54 : decode cX9_workLock 54 = .ok (.aload_n 0, 1) := by decide +kernel
theorem dX9_workLock_55 : decode cX9_workLock 55 = .ok (.aload 5, 2) := by decide +kernel
theorem dX9_workLock_57 : decode cX9_workLock 57 = .ok (.iload_n 2, 1) := by decide +kernel
theorem dX9_workLock_58 : decode cX9_workLock 58 = .ok (.iload_n 3, 1) := by decide +kernel
theorem dX9_workLock_59 : decode cX9_workLock 59 = .ok (.invokevirtual 285, 3) := by decide +kernel
theorem dX9_workLock_62 : decode cX9_workLock 62 = .ok (.istore 6, 2) := by decide +kernel
theorem dX9_workLock_64 : decode cX9_workLock 64 = .ok (.iload 6, 2) := by decide +kernel
theorem dX9_workLock_66 : decode cX9_workLock 66 = .ok (.ifCond .ne 36, 3) := by decide +kernel
theorem dX9_workLock_69 : decode cX9_workLock 69 = .ok (.iload_n 2, 1) := by decide +kernel
theorem dX9_workLock_70 : decode cX9_workLock 70 = .ok (.aload 5, 2) := by decide +kernel
theorem dX9_workLock_72 : decode cX9_workLock 72 = .ok (.getfield 253, 3) := by decide +kernel
theorem dX9_workLock_75 : decode cX9_workLock 75 = .ok (.isub, 1) := by decide +kernel
theorem dX9_workLock_76 : decode cX9_workLock 76 = .ok (.istore_n 2, 1) := by decide +kernel
theorem dX9_workLock_77 : decode cX9_workLock 77 = .ok (.aload_n 0, 1) := by decide +kernel
theorem dX9_workLock_78 : decode cX9_workLock 78 = .ok (.getfield 23, 3) := by decide +kernel
theorem dX9_workLock_81 : decode cX9_workLock 81 = .ok (.iload_n 1, 1) := by decide +kernel
theorem dX9_workLock_82 : decode cX9_workLock 82 = .ok (.aload 5, 2) := by decide +kernel
theorem dX9_workLock_84 : decode cX9_workLock 84 = .ok (.getfield 253, 3) := by decide +kernel
theorem dX9_workLock_87 : decode cX9_workLock 87 = .ok (.invokevirtual 289, 3) := by decide +kernel
theorem dX9_workLock_90 : decode cX9_workLock 90 = .ok (.aload 5, 2) := by decide +kernel
theorem dX9_workLock_92 : decode cX9_workLock 92 = .ok (.aload_n 0, 1) := by decide +kernel
theorem dX9_workLock_93 : decode cX9_workLock 93 = .ok (.getfield 71, 3) := by decide +kernel
theorem dX9_workLock_96 : decode cX9_workLock 96 = .ok (.invokevirtual 293, 3) := by decide +kernel
theorem dX9_workLock_99 : decode cX9_workLock 99 = .ok (.goto 12, 3) := by decide +kernel
theorem dX9_workLock_102 : decode cX9_workLock 102 = .ok (.iconst 1, 1) := by decide +kernel
theorem dX9_workLock_103 : decode cX9_workLock 103 = .ok (.istore_n 3, 1) := by decide +kernel
theorem dX9_workLock_104 : decode cX9_workLock 104 = .ok (.aload 5, 2) := by decide +kernel
theorem dX9_workLock_106 : decode cX9_workLock 106 = .ok (.iload 6, 2) := by decide +kernel
theorem dX9_workLock_108 : decode cX9_workLock 108 = .ok (.invokevirtual 296, 3) := by decide +kernel
theorem dX9_workLock_111 : decode cX9_workLock 111 = .ok (.iinc 4 1, 3) := by decide +kernel
theorem dX9_workLock_114 : decode cX9_workLock 114 = .ok (.goto (-100), 3) := by decide +kernel
theorem dX9_workLock_117 : decode cX9_workLock 117 = .ok (.return_, 1) := by decide +kernel
set_option maxRecDepth 20000 in
theorem ggX9_whatBars_X0_isIcy : GoodIn wsX9_whatBars wsX0_isIcy := goodIn_r _ [10, 11, 12, 47, 48, 49, 50, 51, 52, 53, 54, 55] (by decide +kernel) (by decide +kernel)
set_option maxRecDepth 20000 in
theorem gX9_whatBars_X0_isIcy : GoodIn wsX9_whatBars (wsV RX9 209 RX0 yX0_isIcy wsX0_isIcy) := goodIn_app (goodIn_of _ (by decide +kernel)) ggX9_whatBars_X0_isIcy
set_option maxRecDepth 20000 in
theorem ggX9_whatBars_X0_isTooLow : GoodIn wsX9_whatBars wsX0_isTooLow := goodIn_r _ [16, 17, 18, 19, 20, 9, 21, 22, 23, 24, 25, 47, 48, 49, 50, 51, 52, 53, 54, 55] (by decide +kernel) (by decide +kernel)
set_option maxRecDepth 20000 in
theorem gX9_whatBars_X0_isTooLow : GoodIn wsX9_whatBars (wsV RX9 299 RX0 yX0_isTooLow wsX0_isTooLow) := goodIn_app (goodIn_of _ (by decide +kernel)) ggX9_whatBars_X0_isTooLow
theorem dX9_whatBars_0 : decode cX9_whatBars 0 = .ok (.aload_n 0, 1) := by decide +kernel
theorem dX9_whatBars_1 : decode cX9_whatBars 1 = .ok (.getfield 23, 3) := by decide +kernel
theorem dX9_whatBars_4 : decode cX9_whatBars 4 = .ok (.aload_n 1, 1) := by decide +kernel
theorem dX9_whatBars_5 : decode cX9_whatBars 5 = .ok (.getfield 282, 3) := by decide +kernel
theorem dX9_whatBars_8 : decode cX9_whatBars 8 = .ok (.aload_n 0, 1) := by decide +kernel
theorem dX9_whatBars_9 : decode cX9_whatBars 9 = .ok (.getfield 71, 3) := by decide +kernel
theorem dX9_whatBars_12 : decode cX9_whatBars 12 = .ok (.invokevirtual 209, 3) := by decide +kernel
theorem dX9_whatBars_15 : decode cX9_whatBars 15 = .ok (.ifCond .ne 23, 3) := by decide +kernel
theorem dX9_whatBars_18 : decode cX9_whatBars 18 = .ok (.aload_n 0, 1) := by decide +kernel
theorem dX9_whatBars_19 : decode cX9_whatBars 19 = .ok (.getfield 23, 3) := by decide +kernel
theorem dX9_whatBars_22 : decode cX9_whatBars 22 = .ok (.aload_n 1, 1) := by decide +kernel
theorem dX9_whatBars_23 : decode cX9_whatBars 23 = .ok (.getfield 282, 3) := by decide +kernel
theorem dX9_whatBars_26 : decode cX9_whatBars 26 = .ok (.iconst 1, 1) := by decide +kernel
theorem dX9_whatBars_27 : decode cX9_whatBars 27 = .ok (.iadd, 1) := by decide +kernel
theorem dX9_whatBars_28 : decode cX9_whatBars 28 = .ok (.aload_n 0, 1) := by decide +kernel
theorem dX9_whatBars_29 : decode cX9_whatBars 29 = .ok (.getfield 71, 3) := by decide +kernel
theorem dX9_whatBars_32 : decode cX9_whatBars 32 = .ok (.invokevirtual 209, 3) := by decide +kernel
theorem dX9_whatBars_35 : decode cX9_whatBars 35 = .ok (.ifCond .eq 5, 3) := by decide +kernel
theorem dX9_whatBars_38 : decode cX9_whatBars 38 = .ok (.iconst 1, 1) := by decide +kernel
theorem dX9_whatBars_39 : decode cX9_whatBars 39 = .ok (.ireturn, 1) := by decide +kernel
theorem dX9_whatBars_40 : decode cX9_whatBars 40 = .ok (.aload_n 0, 1) := by decide +kernel
theorem dX9_whatBars_41 : decode cX9_whatBars 41 = .ok (.getfield 23, 3) := by decide +kernel
theorem dX9_whatBars_44 : decode cX9_whatBars 44 = .ok (.aload_n 1, 1) := by decide +kernel
theorem dX9_whatBars_45 : decode cX9_whatBars 45 = .ok (.getfield 282, 3) := by decide +kernel
theorem dX9_whatBars_48 : decode cX9_whatBars 48 = .ok (.iconst 1, 1) := by decide +kernel
theorem dX9_whatBars_49 : decode cX9_whatBars 49 = .ok (.iadd, 1) := by decide +kernel
theorem dX9_whatBars_50 : decode cX9_whatBars 50 = .ok (.aload_n 1, 1) := by decide +kernel
theorem dX9_whatBars_51 : decode cX9_whatBars 51 = .ok (.getfield 253, 3) := by decide +kernel
theorem dX9_whatBars_54 : decode cX9_whatBars 54 = .ok (.invokevirtual 299, 3) := by decide +kernel
theorem dX9_whatBars_57 : decode cX9_whatBars 57 = .ok (.ifCond .eq 5, 3) := by decide +kernel
theorem dX9_whatBars_60 : decode cX9_whatBars 60 = .ok (.iconst 2, 1) := by decide +kernel
theorem dX9_whatBars_61 : decode cX9_whatBars 61 = .ok (.ireturn, 1) := by decide +kernel
theorem dX9_whatBars_62 : decode cX9_whatBars 62 = .ok (.iload_n 2, 1) := by decide +kernel
theorem dX9_whatBars_63 : decode cX9_whatBars 63 = .ok (.aload_n 1, 1) := by decide +kernel
theorem dX9_whatBars_64 : decode cX9_whatBars 64 = .ok (.getfield 253, 3) := by decide +kernel
theorem dX9_whatBars_67 : decode cX9_whatBars 67 = .ok (.if_icmp .ge 5, 3) := by decide +kernel
theorem dX9_whatBars_70 : decode cX9_whatBars 70 = .ok (.iconst 3, 1) := by decide +kernel
theorem dX9_whatBars_71 : decode cX9_whatBars 71 = .ok (.ireturn, 1) := by decide +kernel
theorem dX9_whatBars_72 : decode cX9_whatBars 72 = .ok (.iload_n 3, 1) := by decide +kernel
theorem dX9_whatBars_73 : decode cX9_whatBars 73 = .ok (.ifCond .eq 14, 3) := by decide +kernel
theorem dX9_whatBars_76 : decode cX9_whatBars 76 = .ok (.aload_n 1, 1) := by decide +kernel
theorem dX9_whatBars_77 : decode cX9_whatBars 77 = .ok (.getfield 169, 3) := by decide +kernel
theorem dX9_whatBars_80 : decode cX9_whatBars 80 = .ok (.ifCond .ne 7, 3) := by decide +kernel
theorem dX9_whatBars_83 : decode cX9_whatBars 83 = .ok (.iconst 4, 1) := by decide +kernel
theorem dX9_whatBars_84 : decode cX9_whatBars 84 = .ok (.goto 4, 3) := by decide +kernel
theorem dX9_whatBars_87 : decode cX9_whatBars 87 = .ok (.iconst 0, 1) := by decide +kernel
theorem dX9_whatBars_88 : decode cX9_whatBars 88 = .ok (.ireturn, 1) := by decide +kernel
theorem dX9_isWithin_0 : decode cX9_isWithin 0 = .ok (.iload_n 0, 1) := by decide +kernel
theorem dX9_isWithin_1 : decode cX9_isWithin 1 = .ok (.iload_n 1, 1) := by decide +kernel
theorem dX9_isWithin_2 : decode cX9_isWithin 2 = .ok (.if_icmp .lt 12, 3) := by decide +kernel
theorem dX9_isWithin_5 : decode cX9_isWithin 5 = .ok (.iload_n 0, 1) := by decide +kernel
theorem dX9_isWithin_6 : decode cX9_isWithin 6 = .ok (.iload_n 2, 1) := by decide +kernel
theorem dX9_isWithin_7 : decode cX9_isWithin 7 = .ok (.if_icmp .gt 7, 3) := by decide +kernel
theorem dX9_isWithin_10 : decode cX9_isWithin 10 = .ok (.iconst 1, 1) := by decide +kernel
theorem dX9_isWithin_11 : decode cX9_isWithin 11 = .ok (.goto 4, 3) := by decide +kernel
theorem dX9_isWithin_14 : decode cX9_isWithin 14 = .ok (.iconst 0, 1) := by decide +kernel
theorem dX9_isWithin_15 : decode cX9_isWithin 15 = .ok (.ireturn, 1) := by decide +kernel
set_option maxRecDepth 20000 in
theorem ggX9_isDay_X9_isWithin : GoodIn wsX9_isDay wsX9_isWithin := goodIn_r _ [4] (by decide +kernel) (by decide +kernel)
set_option maxRecDepth 20000 in
theorem gX9_isDay_X9_isWithin : GoodIn wsX9_isDay (va_wsS RX9 82 yX9_isWithin wsX9_isWithin) := goodIn_app (goodIn_of _ (by decide +kernel)) ggX9_isDay_X9_isWithin
theorem dX9_isDay_0 : decode cX9_isDay 0 = .ok (.iload_n 0, 1) := by decide +kernel
theorem dX9_isDay_1 : decode cX9_isDay 1 = .ok (.iconst 0, 1) := by decide +kernel
theorem dX9_isDay_2 : decode cX9_isDay 2 = .ok (.sipush 400, 3) := by decide +kernel
theorem dX9_isDay_5 : decode cX9_isDay 5 = .ok (.invokestatic 82, 3) := by decide +kernel
theorem dX9_isDay_8 : decode cX9_isDay 8 = .ok (.ireturn, 1) := by decide +kernel
set_option maxRecDepth 20000 in
theorem ggX9_isCounty_X9_isWithin : GoodIn wsX9_isCounty wsX9_isWithin := goodIn_r _ [4] (by decide +kernel) (by decide +kernel)
set_option maxRecDepth 20000 in
theorem gX9_isCounty_X9_isWithin : GoodIn wsX9_isCounty (va_wsS RX9 82 yX9_isWithin wsX9_isWithin) := goodIn_app (goodIn_of _ (by decide +kernel)) ggX9_isCounty_X9_isWithin
theorem dX9_isCounty_0 : decode cX9_isCounty 0 = .ok (.iload_n 0, 1) := by decide +kernel
theorem dX9_isCounty_1 : decode cX9_isCounty 1 = .ok (.iconst 0, 1) := by decide +kernel
theorem dX9_isCounty_2 : decode cX9_isCounty 2 = .ok (.iconst 5, 1) := by decide +kernel
theorem dX9_isCounty_3 : decode cX9_isCounty 3 = .ok (.invokestatic 82, 3) := by decide +kernel
theorem dX9_isCounty_6 : decode cX9_isCounty 6 = .ok (.ireturn, 1) := by decide +kernel
theorem dX9_isPlace_0 : decode cX9_isPlace 0 = .ok (.iload_n 0, 1) := by decide +kernel
theorem dX9_isPlace_1 : decode cX9_isPlace 1 = .ok (.ifCond .lt 12, 3) := by decide +kernel
theorem dX9_isPlace_4 : decode cX9_isPlace 4 = .ok (.iload_n 0, 1) := by decide +kernel
theorem dX9_isPlace_5 : decode cX9_isPlace 5 = .ok (.iload_n 1, 1) := by decide +kernel
theorem dX9_isPlace_6 : decode cX9_isPlace 6 = .ok (.if_icmp .ge 7, 3) := by decide +kernel
theorem dX9_isPlace_9 : decode cX9_isPlace 9 = .ok (.iconst 1, 1) := by decide +kernel
theorem dX9_isPlace_10 : decode cX9_isPlace 10 = .ok (.goto 4, 3) := by decide +kernel
theorem dX9_isPlace_13 : decode cX9_isPlace 13 = .ok (.iconst 0, 1) := by decide +kernel
theorem dX9_isPlace_14 : decode cX9_isPlace 14 = .ok (.ireturn, 1) := by decide +kernel
theorem dX9_daysToPass_0 : decode cX9_daysToPass 0 = .ok (.iload_n 1, 1) := by decide +kernel
theorem dX9_daysToPass_1 : decode cX9_daysToPass 1 = .ok (.iconst 1, 1) := by decide +kernel
theorem dX9_daysToPass_2 : decode cX9_daysToPass 2 = .ok (.if_icmp .ge 7, 3) := by decide +kernel
theorem dX9_daysToPass_5 : decode cX9_daysToPass 5 = .ok (.iconst 0, 1) := by decide +kernel
theorem dX9_daysToPass_6 : decode cX9_daysToPass 6 = .ok (.goto 10, 3) := by decide +kernel
theorem dX9_daysToPass_9 : decode cX9_daysToPass 9 = .ok (.iload_n 0, 1) := by decide +kernel
theorem dX9_daysToPass_10 : decode cX9_daysToPass 10 = .ok (.iload_n 1, 1) := by decide +kernel
theorem dX9_daysToPass_11 : decode cX9_daysToPass 11 = .ok (.iadd, 1) := by decide +kernel
theorem dX9_daysToPass_12 : decode cX9_daysToPass 12 = .ok (.iconst 1, 1) := by decide +kernel
theorem dX9_daysToPass_13 : decode cX9_daysToPass 13 = .ok (.isub, 1) := by decide +kernel
theorem dX9_daysToPass_14 : decode cX9_daysToPass 14 = .ok (.iload_n 1, 1) := by decide +kernel
theorem dX9_daysToPass_15 : decode cX9_daysToPass 15 = .ok (.idiv, 1) := by decide +kernel
theorem dX9_daysToPass_16 : decode cX9_daysToPass 16 = .ok (.ireturn, 1) := by decide +kernel
