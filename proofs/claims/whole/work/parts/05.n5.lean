set_option maxRecDepth 20000 in
theorem ggX5_init_X0_init : GoodIn wsX5_init wsX0_init := goodIn_r _ [27, 28, 2, 3, 29, 30, 31, 32, 33, 34, 35, 36, 37, 38, 39, 40, 41, 42, 43, 44, 45, 46, 47, 48, 49, 50, 51, 52, 53, 54, 55, 85, 86, 87, 88, 89, 90, 91, 92, 93, 94, 95, 96, 97, 98, 131] (by decide +kernel) (by decide +kernel)
set_option maxRecDepth 20000 in
theorem gX5_init_X0_init_n9 : GoodIn wsX5_init (wsX0_init) := ggX5_init_X0_init
set_option maxRecDepth 20000 in
theorem ggX5_init_X4_init : GoodIn wsX5_init wsX4_init := goodIn_r _ [57, 58, 2, 3, 59, 60, 61, 62, 63, 64, 65, 66, 67, 68, 37, 38, 69, 70, 71, 72, 73, 74, 47, 48, 49, 50, 51, 52, 53, 54, 55, 112, 113, 114, 115, 116, 117, 118, 119, 120, 121, 122, 123, 124, 125, 131] (by decide +kernel) (by decide +kernel)
set_option maxRecDepth 20000 in
theorem gX5_init_X4_init_n27 : GoodIn wsX5_init (wsX4_init) := ggX5_init_X4_init
set_option maxRecDepth 20000 in
theorem ggX5_init_X3_init : GoodIn wsX5_init wsX3_init := goodIn_r _ [76, 77, 2, 3, 78, 79, 37, 38, 80, 81, 82, 83, 84, 47, 48, 49, 50, 51, 52, 53, 54, 55, 126, 127, 128, 129, 130, 131] (by decide +kernel) (by decide +kernel)
set_option maxRecDepth 20000 in
theorem gX5_init_X3_init_n34 : GoodIn wsX5_init (wsX3_init) := ggX5_init_X3_init
theorem dX5_init_0 : decode cX5_init 0 = .ok (.aload_n 0, 1) := by decide +kernel
theorem dX5_init_1 : decode cX5_init 1 = .ok (.invokespecial 1, 3) := by decide +kernel
theorem dX5_init_4 : decode cX5_init 4 = .ok (.aload_n 0, 1) := by decide +kernel
theorem dX5_init_5 : decode cX5_init 5 = .ok (.new 7, 3) := by decide +kernel
theorem dX5_init_8 : decode cX5_init 8 = .ok (.dup, 1) := by decide +kernel
theorem dX5_init_9 : decode cX5_init 9 = .ok (.invokespecial 9, 3) := by decide +kernel
theorem dX5_init_12 : decode cX5_init 12 = .ok (.putfield 10, 3) := by decide +kernel
theorem dX5_init_15 : decode cX5_init 15 = .ok (.aload_n 0, 1) := by decide +kernel
theorem dX5_init_16 : decode cX5_init 16 = .ok (.new 7, 3) := by decide +kernel
theorem dX5_init_19 : decode cX5_init 19 = .ok (.dup, 1) := by decide +kernel
theorem dX5_init_20 : decode cX5_init 20 = .ok (.invokespecial 9, 3) := by decide +kernel
theorem dX5_init_23 : decode cX5_init 23 = .ok (.putfield 16, 3) := by decide +kernel
theorem dX5_init_26 : decode cX5_init 26 = .ok (.aload_n 0, 1) := by decide +kernel
theorem dX5_init_27 : decode cX5_init 27 = .ok (.new 7, 3) := by decide +kernel
theorem dX5_init_30 : decode cX5_init 30 = .ok (.dup, 1) := by decide +kernel
theorem dX5_init_31 : decode cX5_init 31 = .ok (.invokespecial 9, 3) := by decide +kernel
theorem dX5_init_34 : decode cX5_init 34 = .ok (.putfield 19, 3) := by decide +kernel
theorem dX5_init_37 : decode cX5_init 37 = .ok (.aload_n 0, 1) := by decide +kernel
theorem dX5_init_38 : decode cX5_init 38 = .ok (.new 7, 3) := by decide +kernel
theorem dX5_init_41 : decode cX5_init 41 = .ok (.dup, 1) := by decide +kernel
theorem dX5_init_42 : decode cX5_init 42 = .ok (.invokespecial 9, 3) := by decide +kernel
theorem dX5_init_45 : decode cX5_init 45 = .ok (.putfield 22, 3) := by decide +kernel
theorem dX5_init_48 : decode cX5_init 48 = .ok (.aload_n 0, 1) := by decide +kernel
theorem dX5_init_49 : decode cX5_init 49 = .ok (.new 25, 3) := by decide +kernel
theorem dX5_init_52 : decode cX5_init 52 = .ok (.dup, 1) := by decide +kernel
theorem dX5_init_53 : decode cX5_init 53 = .ok (.invokespecial 27, 3) := by decide +kernel
theorem dX5_init_56 : decode cX5_init 56 = .ok (.putfield 28, 3) := by decide +kernel
theorem dX5_init_59 : decode cX5_init 59 = .ok (.aload_n 0, 1) := by decide +kernel
theorem dX5_init_60 : decode cX5_init 60 = .ok (.new 32, 3) := by decide +kernel
theorem dX5_init_63 : decode cX5_init 63 = .ok (.dup, 1) := by decide +kernel
theorem dX5_init_64 : decode cX5_init 64 = .ok (.invokespecial 34, 3) := by decide +kernel
theorem dX5_init_67 : decode cX5_init 67 = .ok (.putfield 35, 3) := by decide +kernel
theorem dX5_init_70 : decode cX5_init 70 = .ok (.aload_n 0, 1) := by decide +kernel
theorem dX5_init_71 : decode cX5_init 71 = .ok (.iconst 0, 1) := by decide +kernel
theorem dX5_init_72 : decode cX5_init 72 = .ok (.putfield 39, 3) := by decide +kernel
theorem dX5_init_75 : decode cX5_init 75 = .ok (.aload_n 0, 1) := by decide +kernel
theorem dX5_init_76 : decode cX5_init 76 = .ok (.iconst 0, 1) := by decide +kernel
theorem dX5_init_77 : decode cX5_init 77 = .ok (.putfield 43, 3) := by decide +kernel
theorem dX5_init_80 : decode cX5_init 80 = .ok (.aload_n 0, 1) := by decide +kernel
theorem dX5_init_81 : decode cX5_init 81 = .ok (.lconst 0, 1) := by decide +kernel
theorem dX5_init_82 : decode cX5_init 82 = .ok (.putfield 46, 3) := by decide +kernel
theorem dX5_init_85 : decode cX5_init 85 = .ok (.aload_n 0, 1) := by decide +kernel
theorem dX5_init_86 : decode cX5_init 86 = .ok (.lconst 1, 1) := by decide +kernel
theorem dX5_init_87 : decode cX5_init 87 = .ok (.putfield 50, 3) := by decide +kernel
theorem dX5_init_90 : decode cX5_init 90 = .ok (.aload_n 0, 1) := by decide +kernel
theorem dX5_init_91 : decode cX5_init 91 = .ok (.iconst 0, 1) := by decide +kernel
theorem dX5_init_92 : decode cX5_init 92 = .ok (.putfield 53, 3) := by decide +kernel
theorem dX5_init_95 : decode cX5_init 95 = .ok (.aload_n 0, 1) := by decide +kernel
theorem dX5_init_96 : decode cX5_init 96 = .ok (.iconst 0, 1) := by decide +kernel
theorem dX5_init_97 : decode cX5_init 97 = .ok (.putfield 57, 3) := by decide +kernel
theorem dX5_init_100 : decode cX5_init 100 = .ok (.aload_n 0, 1) := by decide +kernel
theorem dX5_init_101 : decode cX5_init 101 = .ok (.iconst 0, 1) := by decide +kernel
theorem dX5_init_102 : decode cX5_init 102 = .ok (.putfield 60, 3) := by decide +kernel
theorem dX5_init_105 : decode cX5_init 105 = .ok (.return_, 1) := by decide +kernel
set_option maxRecDepth 20000 in
theorem ggX5_flight_X5_within : GoodIn wsX5_flight wsX5_within := goodIn_r _ [6] (by decide +kernel) (by decide +kernel)
set_option maxRecDepth 20000 in
theorem gX5_flight_X5_within : GoodIn wsX5_flight (va_wsS RX5 63 yX5_within wsX5_within) := goodIn_app (goodIn_of _ (by decide +kernel)) ggX5_flight_X5_within
set_option maxRecDepth 20000 in
theorem ggX5_flight_X5_refusedBad : GoodIn wsX5_flight wsX5_refusedBad := goodIn_r _ [10, 11, 24, 25, 26, 27, 28, 29, 30, 31, 32, 33, 34, 35, 36] (by decide +kernel) (by decide +kernel)
set_option maxRecDepth 20000 in
theorem gX5_flight_X5_refusedBad : GoodIn wsX5_flight (wsV RX5 67 RX5 yX5_refusedBad wsX5_refusedBad) := goodIn_app (goodIn_of _ (by decide +kernel)) ggX5_flight_X5_refusedBad
set_option maxRecDepth 20000 in
theorem ggX5_flight_X0_reset : GoodIn wsX5_flight wsX0_reset := goodIn_r _ [16, 17, 18, 19, 20, 21, 22, 23, 37, 38, 39, 40, 41, 42, 43, 44, 45, 46, 47, 48, 49, 50] (by decide +kernel) (by decide +kernel)
set_option maxRecDepth 20000 in
theorem gX5_flight_X0_reset : GoodIn wsX5_flight (wsV RX5 74 RX0 yX0_reset wsX0_reset) := goodIn_app (goodIn_of _ (by decide +kernel)) ggX5_flight_X0_reset
theorem dX5_flight_0 : decode cX5_flight 0 = .ok (.iload_n 1, 1) := by decide +kernel
theorem dX5_flight_1 : decode cX5_flight 1 = .ok (.iconst 0, 1) := by decide +kernel
theorem dX5_flight_2 : decode cX5_flight 2 = .ok (.bipush 9, 2) := by decide +kernel
theorem dX5_flight_4 : decode cX5_flight 4 = .ok (.invokestatic 63, 3) := by decide +kernel
theorem dX5_flight_7 : decode cX5_flight 7 = .ok (.ifCond .ne 8, 3) := by decide +kernel
theorem dX5_flight_10 : decode cX5_flight 10 = .ok (.aload_n 0, 1) := by decide +kernel
theorem dX5_flight_11 : decode cX5_flight 11 = .ok (.invokevirtual 67, 3) := by decide +kernel
theorem dX5_flight_14 : decode cX5_flight 14 = .ok (.ireturn, 1) := by decide +kernel
theorem dX5_flight_15 : decode cX5_flight 15 = .ok (.aload_n 0, 1) := by decide +kernel
theorem dX5_flight_16 : decode cX5_flight 16 = .ok (.getfield 10, 3) := by decide +kernel
theorem dX5_flight_19 : decode cX5_flight 19 = .ok (.getfield 71, 3) := by decide +kernel
theorem dX5_flight_22 : decode cX5_flight 22 = .ok (.istore_n 2, 1) := by decide +kernel
theorem dX5_flight_23 : decode cX5_flight 23 = .ok (.aload_n 0, 1) := by decide +kernel
theorem dX5_flight_24 : decode cX5_flight 24 = .ok (.getfield 10, 3) := by decide +kernel
theorem dX5_flight_27 : decode cX5_flight 27 = .ok (.iload_n 1, 1) := by decide +kernel
theorem dX5_flight_28 : decode cX5_flight 28 = .ok (.invokevirtual 74, 3) := by decide +kernel
theorem dX5_flight_31 : decode cX5_flight 31 = .ok (.iload_n 2, 1) := by decide +kernel
theorem dX5_flight_32 : decode cX5_flight 32 = .ok (.ireturn, 1) := by decide +kernel
set_option maxRecDepth 20000 in
theorem ggX5_lock_X5_within : GoodIn wsX5_lock wsX5_within := goodIn_r _ [6] (by decide +kernel) (by decide +kernel)
set_option maxRecDepth 20000 in
theorem gX5_lock_X5_within : GoodIn wsX5_lock (va_wsS RX5 63 yX5_within wsX5_within) := goodIn_app (goodIn_of _ (by decide +kernel)) ggX5_lock_X5_within
set_option maxRecDepth 20000 in
theorem ggX5_lock_X5_refusedBad : GoodIn wsX5_lock wsX5_refusedBad := goodIn_r _ [10, 11, 33, 34, 35, 36, 37, 38, 39, 40, 41, 42, 43, 44, 45] (by decide +kernel) (by decide +kernel)
set_option maxRecDepth 20000 in
theorem gX5_lock_X5_refusedBad : GoodIn wsX5_lock (wsV RX5 67 RX5 yX5_refusedBad wsX5_refusedBad) := goodIn_app (goodIn_of _ (by decide +kernel)) ggX5_lock_X5_refusedBad
set_option maxRecDepth 20000 in
theorem ggX5_lock_X5_refusedFull : GoodIn wsX5_lock wsX5_refusedFull := goodIn_r _ [15, 16, 33, 34, 35, 36, 37, 38, 39, 40, 41, 42, 43, 44, 45] (by decide +kernel) (by decide +kernel)
set_option maxRecDepth 20000 in
theorem gX5_lock_X5_refusedFull : GoodIn wsX5_lock (wsV RX5 78 RX5 yX5_refusedFull wsX5_refusedFull) := goodIn_app (goodIn_of _ (by decide +kernel)) ggX5_lock_X5_refusedFull
set_option maxRecDepth 20000 in
theorem ggX5_lock_X0_addLock : GoodIn wsX5_lock wsX0_addLock := goodIn_r _ [21, 22, 23, 24, 25, 26, 27, 28, 29, 30, 31, 32, 46, 47, 48, 49, 50, 51, 52, 53, 54, 55, 56, 57, 58, 59, 60] (by decide +kernel) (by decide +kernel)
set_option maxRecDepth 20000 in
theorem gX5_lock_X0_addLock : GoodIn wsX5_lock (wsV RX5 81 RX0 yX0_addLock wsX0_addLock) := goodIn_app (goodIn_of _ (by decide +kernel)) ggX5_lock_X0_addLock
theorem dX5_lock_0 : decode cX5_lock 0 = .ok (.iload_n 1, 1) := by decide +kernel
theorem dX5_lock_1 : decode cX5_lock 1 = .ok (.iconst 0, 1) := by decide +kernel
theorem dX5_lock_2 : decode cX5_lock 2 = .ok (.iconst 5, 1) := by decide +kernel
theorem dX5_lock_3 : decode cX5_lock 3 = .ok (.invokestatic 63, 3) := by decide +kernel
theorem dX5_lock_6 : decode cX5_lock 6 = .ok (.ifCond .eq 22, 3) := by decide +kernel
theorem dX5_lock_9 : decode cX5_lock 9 = .ok (.iload_n 2, 1) := by decide +kernel
theorem dX5_lock_10 : decode cX5_lock 10 = .ok (.iconst 0, 1) := by decide +kernel
theorem dX5_lock_11 : decode cX5_lock 11 = .ok (.iconst 1, 1) := by decide +kernel
theorem dX5_lock_12 : decode cX5_lock 12 = .ok (.invokestatic 63, 3) := by decide +kernel
theorem dX5_lock_15 : decode cX5_lock 15 = .ok (.ifCond .eq 13, 3) := by decide +kernel
theorem dX5_lock_18 : decode cX5_lock 18 = .ok (.iload_n 3, 1) := by decide +kernel
theorem dX5_lock_19 : decode cX5_lock 19 = .ok (.iconst 1, 1) := by decide +kernel
theorem dX5_lock_20 : decode cX5_lock 20 = .ok (.bipush 20, 2) := by decide +kernel
theorem dX5_lock_22 : decode cX5_lock 22 = .ok (.invokestatic 63, 3) := by decide +kernel
theorem dX5_lock_25 : decode cX5_lock 25 = .ok (.ifCond .ne 8, 3) := by decide +kernel
theorem dX5_lock_28 : decode cX5_lock 28 = .ok (.aload_n 0, 1) := by decide +kernel
theorem dX5_lock_29 : decode cX5_lock 29 = .ok (.invokevirtual 67, 3) := by decide +kernel
theorem dX5_lock_32 : decode cX5_lock 32 = .ok (.ireturn, 1) := by decide +kernel
theorem dX5_lock_33 : decode cX5_lock 33 = .ok (.aload_n 0, 1) := by decide +kernel
theorem dX5_lock_34 : decode cX5_lock 34 = .ok (.getfield 10, 3) := by decide +kernel
theorem dX5_lock_37 : decode cX5_lock 37 = .ok (.getfield 71, 3) := by decide +kernel
theorem dX5_lock_40 : decode cX5_lock 40 = .ok (.bipush 8, 2) := by decide +kernel
theorem dX5_lock_42 : decode cX5_lock 42 = .ok (.if_icmp .lt 8, 3) := by decide +kernel
theorem dX5_lock_45 : decode cX5_lock 45 = .ok (.aload_n 0, 1) := by decide +kernel
theorem dX5_lock_46 : decode cX5_lock 46 = .ok (.invokevirtual 78, 3) := by decide +kernel
theorem dX5_lock_49 : decode cX5_lock 49 = .ok (.ireturn, 1) := by decide +kernel
theorem dX5_lock_50 : decode cX5_lock 50 = .ok (.aload_n 0, 1) := by decide +kernel
theorem dX5_lock_51 : decode cX5_lock 51 = .ok (.getfield 10, 3) := by decide +kernel
theorem dX5_lock_54 : decode cX5_lock 54 = .ok (.iload_n 1, 1) := by decide +kernel
theorem dX5_lock_55 : decode cX5_lock 55 = .ok (.iload_n 2, 1) := by decide +kernel
theorem dX5_lock_56 : decode cX5_lock 56 = .ok (.iload_n 3, 1) := by decide +kernel
theorem dX5_lock_57 : decode cX5_lock 57 = .ok (.invokevirtual 81, 3) := by decide +kernel
theorem dX5_lock_60 : decode cX5_lock 60 = .ok (.aload_n 0, 1) := by decide +kernel
theorem dX5_lock_61 : decode cX5_lock 61 = .ok (.getfield 10, 3) := by decide +kernel
theorem dX5_lock_64 : decode cX5_lock 64 = .ok (.getfield 71, 3) := by decide +kernel
theorem dX5_lock_67 : decode cX5_lock 67 = .ok (.iconst 1, 1) := by decide +kernel
theorem dX5_lock_68 : decode cX5_lock 68 = .ok (.isub, 1) := by decide +kernel
theorem dX5_lock_69 : decode cX5_lock 69 = .ok (.ireturn, 1) := by decide +kernel
set_option maxRecDepth 20000 in
theorem ggX5_strength_X5_within : GoodIn wsX5_strength wsX5_within := goodIn_r _ [6] (by decide +kernel) (by decide +kernel)
set_option maxRecDepth 20000 in
theorem gX5_strength_X5_within : GoodIn wsX5_strength (va_wsS RX5 63 yX5_within wsX5_within) := goodIn_app (goodIn_of _ (by decide +kernel)) ggX5_strength_X5_within
set_option maxRecDepth 20000 in
theorem ggX5_strength_X5_refusedBad : GoodIn wsX5_strength wsX5_refusedBad := goodIn_r _ [10, 11, 12, 13, 14, 15, 16, 17, 18, 19, 20, 21, 22, 23, 24] (by decide +kernel) (by decide +kernel)
set_option maxRecDepth 20000 in
theorem gX5_strength_X5_refusedBad : GoodIn wsX5_strength (wsV RX5 67 RX5 yX5_refusedBad wsX5_refusedBad) := goodIn_app (goodIn_of _ (by decide +kernel)) ggX5_strength_X5_refusedBad
theorem dX5_strength_0 : decode cX5_strength 0 = .ok (.iload_n 1, 1) := by decide +kernel
theorem dX5_strength_1 : decode cX5_strength 1 = .ok (.iconst 0, 1) := by decide +kernel
theorem dX5_strength_2 : decode cX5_strength 2 = .ok (.bipush 9, 2) := by decide +kernel
theorem dX5_strength_4 : decode cX5_strength 4 = .ok (.invokestatic 63, 3) := by decide +kernel
theorem dX5_strength_7 : decode cX5_strength 7 = .ok (.ifCond .ne 8, 3) := by decide +kernel
theorem dX5_strength_10 : decode cX5_strength 10 = .ok (.aload_n 0, 1) := by decide +kernel
theorem dX5_strength_11 : decode cX5_strength 11 = .ok (.invokevirtual 67, 3) := by decide +kernel
theorem dX5_strength_14 : decode cX5_strength 14 = .ok (.ireturn, 1) := by decide +kernel
theorem dX5_strength_15 : decode cX5_strength 15 = .ok (.aload_n 0, 1) := by decide +kernel
theorem dX5_strength_16 : decode cX5_strength 16 = .ok (.getfield 10, 3) := by decide +kernel
theorem dX5_strength_19 : decode cX5_strength 19 = .ok (.getfield 85, 3) := by decide +kernel
theorem dX5_strength_22 : decode cX5_strength 22 = .ok (.istore_n 2, 1) := by decide +kernel
theorem dX5_strength_23 : decode cX5_strength 23 = .ok (.aload_n 0, 1) := by decide +kernel
theorem dX5_strength_24 : decode cX5_strength 24 = .ok (.getfield 10, 3) := by decide +kernel
theorem dX5_strength_27 : decode cX5_strength 27 = .ok (.iload_n 1, 1) := by decide +kernel
theorem dX5_strength_28 : decode cX5_strength 28 = .ok (.putfield 85, 3) := by decide +kernel
theorem dX5_strength_31 : decode cX5_strength 31 = .ok (.iload_n 2, 1) := by decide +kernel
theorem dX5_strength_32 : decode cX5_strength 32 = .ok (.ireturn, 1) := by decide +kernel
set_option maxRecDepth 20000 in
theorem ggX5_turn_X0_has : GoodIn wsX5_turn wsX0_has := goodIn_r _ [7, 8, 9, 10, 11, 55, 56, 57, 58, 59, 60, 61, 62, 63, 64, 65, 66, 67, 68] (by decide +kernel) (by decide +kernel)
set_option maxRecDepth 20000 in
theorem gX5_turn_X0_has : GoodIn wsX5_turn (wsV RX5 88 RX0 yX0_has wsX0_has) := goodIn_app (goodIn_of _ (by decide +kernel)) ggX5_turn_X0_has
set_option maxRecDepth 20000 in
theorem ggX5_turn_X5_refusedBad : GoodIn wsX5_turn wsX5_refusedBad := goodIn_r _ [15, 16, 42, 43, 44, 45, 46, 47, 48, 49, 50, 51, 52, 53, 54] (by decide +kernel) (by decide +kernel)
set_option maxRecDepth 20000 in
theorem gX5_turn_X5_refusedBad : GoodIn wsX5_turn (wsV RX5 67 RX5 yX5_refusedBad wsX5_refusedBad) := goodIn_app (goodIn_of _ (by decide +kernel)) ggX5_turn_X5_refusedBad
set_option maxRecDepth 20000 in
theorem ggX5_turn_X0_remember : GoodIn wsX5_turn wsX0_remember := goodIn_r _ [20, 21, 22, 23, 24, 25, 26, 27, 28, 29, 30, 31, 32, 33, 34, 35, 36, 37, 55, 56, 57, 58, 59, 60, 61, 62, 63, 64, 65, 66, 67, 68, 69] (by decide +kernel) (by decide +kernel)
set_option maxRecDepth 20000 in
theorem gX5_turn_X0_remember : GoodIn wsX5_turn (wsV RX5 92 RX0 yX0_remember wsX0_remember) := goodIn_app (goodIn_of _ (by decide +kernel)) ggX5_turn_X0_remember
set_option maxRecDepth 20000 in
theorem ggX5_turn_X0_standsOf : GoodIn wsX5_turn wsX0_standsOf := goodIn_r _ [41, 25, 55, 56, 57, 58, 59, 60, 61, 62, 63, 64, 65, 66, 67, 68] (by decide +kernel) (by decide +kernel)
set_option maxRecDepth 20000 in
theorem gX5_turn_X0_standsOf : GoodIn wsX5_turn (wsV RX5 98 RX0 yX0_standsOf wsX0_standsOf) := goodIn_app (goodIn_of _ (by decide +kernel)) ggX5_turn_X0_standsOf
theorem dX5_turn_0 : decode cX5_turn 0 = .ok (.aload_n 0, 1) := by decide +kernel
theorem dX5_turn_1 : decode cX5_turn 1 = .ok (.getfield 10, 3) := by decide +kernel
theorem dX5_turn_4 : decode cX5_turn 4 = .ok (.iload_n 1, 1) := by decide +kernel
theorem dX5_turn_5 : decode cX5_turn 5 = .ok (.invokevirtual 88, 3) := by decide +kernel
theorem dX5_turn_8 : decode cX5_turn 8 = .ok (.ifCond .ne 8, 3) := by decide +kernel
theorem dX5_turn_11 : decode cX5_turn 11 = .ok (.aload_n 0, 1) := by decide +kernel
theorem dX5_turn_12 : decode cX5_turn 12 = .ok (.invokevirtual 67, 3) := by decide +kernel
theorem dX5_turn_15 : decode cX5_turn 15 = .ok (.ireturn, 1) := by decide +kernel
theorem dX5_turn_16 : decode cX5_turn 16 = .ok (.aload_n 0, 1) := by decide +kernel
theorem dX5_turn_17 : decode cX5_turn 17 = .ok (.getfield 10, 3) := by decide +kernel
theorem dX5_turn_20 : decode cX5_turn 20 = .ok (.invokevirtual 92, 3) := by decide +kernel
theorem dX5_turn_23 : decode cX5_turn 23 = .ok (.aload_n 0, 1) := by decide +kernel
theorem dX5_turn_24 : decode cX5_turn 24 = .ok (.getfield 10, 3) := by decide +kernel
theorem dX5_turn_27 : decode cX5_turn 27 = .ok (.aload_n 0, 1) := by decide +kernel
theorem dX5_turn_28 : decode cX5_turn 28 = .ok (.getfield 10, 3) := by decide +kernel
theorem dX5_turn_31 : decode cX5_turn 31 = .ok (.getfield 95, 3) := by decide +kernel
theorem dX5_turn_34 : decode cX5_turn 34 = .ok (.iconst 1, 1) := by decide +kernel
theorem dX5_turn_35 : decode cX5_turn 35 = .ok (.iload_n 1, 1) := by decide +kernel
theorem dX5_turn_36 : decode cX5_turn 36 = .ok (.ishl, 1) := by decide +kernel
theorem dX5_turn_37 : decode cX5_turn 37 = .ok (.ixor, 1) := by decide +kernel
theorem dX5_turn_38 : decode cX5_turn 38 = .ok (.putfield 95, 3) := by decide +kernel
theorem dX5_turn_41 : decode cX5_turn 41 = .ok (.aload_n 0, 1) := by decide +kernel
theorem dX5_turn_42 : decode cX5_turn 42 = .ok (.getfield 10, 3) := by decide +kernel
theorem dX5_turn_45 : decode cX5_turn 45 = .ok (.iload_n 1, 1) := by decide +kernel
theorem dX5_turn_46 : decode cX5_turn 46 = .ok (.invokevirtual 98, 3) := by decide +kernel
theorem dX5_turn_49 : decode cX5_turn 49 = .ok (.ireturn, 1) := by decide +kernel
set_option maxRecDepth 20000 in
theorem ggX5_type_X5_within : GoodIn wsX5_type wsX5_within := goodIn_r _ [6] (by decide +kernel) (by decide +kernel)
set_option maxRecDepth 20000 in
theorem gX5_type_X5_within : GoodIn wsX5_type (va_wsS RX5 63 yX5_within wsX5_within) := goodIn_app (goodIn_of _ (by decide +kernel)) ggX5_type_X5_within
set_option maxRecDepth 20000 in
theorem ggX5_type_X5_refusedBad : GoodIn wsX5_type wsX5_refusedBad := goodIn_r _ [10, 11, 30, 31, 32, 33, 34, 35, 36, 37, 38, 39, 40, 41, 42] (by decide +kernel) (by decide +kernel)
set_option maxRecDepth 20000 in
theorem gX5_type_X5_refusedBad : GoodIn wsX5_type (wsV RX5 67 RX5 yX5_refusedBad wsX5_refusedBad) := goodIn_app (goodIn_of _ (by decide +kernel)) ggX5_type_X5_refusedBad
set_option maxRecDepth 20000 in
theorem ggX5_type_X5_refusedFull : GoodIn wsX5_type wsX5_refusedFull := goodIn_r _ [15, 16, 30, 31, 32, 33, 34, 35, 36, 37, 38, 39, 40, 41, 42] (by decide +kernel) (by decide +kernel)
set_option maxRecDepth 20000 in
theorem gX5_type_X5_refusedFull : GoodIn wsX5_type (wsV RX5 78 RX5 yX5_refusedFull wsX5_refusedFull) := goodIn_app (goodIn_of _ (by decide +kernel)) ggX5_type_X5_refusedFull
set_option maxRecDepth 20000 in
theorem ggX5_type_X3_append : GoodIn wsX5_type wsX3_append := goodIn_r _ [21, 22, 23, 24, 25, 26, 27, 28, 29, 43, 44, 45, 46, 47, 48] (by decide +kernel) (by decide +kernel)
set_option maxRecDepth 20000 in
theorem gX5_type_X3_append : GoodIn wsX5_type (wsV RX5 105 RX3 yX3_append wsX3_append) := goodIn_app (goodIn_of _ (by decide +kernel)) ggX5_type_X3_append
theorem dX5_type_0 : decode cX5_type 0 = .ok (.iload_n 1, 1) := by decide +kernel
theorem dX5_type_1 : decode cX5_type 1 = .ok (.iconst 0, 1) := by decide +kernel
theorem dX5_type_2 : decode cX5_type 2 = .ok (.bipush 127, 2) := by decide +kernel
theorem dX5_type_4 : decode cX5_type 4 = .ok (.invokestatic 63, 3) := by decide +kernel
theorem dX5_type_7 : decode cX5_type 7 = .ok (.ifCond .ne 8, 3) := by decide +kernel
theorem dX5_type_10 : decode cX5_type 10 = .ok (.aload_n 0, 1) := by decide +kernel
theorem dX5_type_11 : decode cX5_type 11 = .ok (.invokevirtual 67, 3) := by decide +kernel
theorem dX5_type_14 : decode cX5_type 14 = .ok (.ireturn, 1) := by decide +kernel
theorem dX5_type_15 : decode cX5_type 15 = .ok (.aload_n 0, 1) := by decide +kernel
theorem dX5_type_16 : decode cX5_type 16 = .ok (.getfield 35, 3) := by decide +kernel
theorem dX5_type_19 : decode cX5_type 19 = .ok (.getfield 102, 3) := by decide +kernel
theorem dX5_type_22 : decode cX5_type 22 = .ok (.sipush 150, 3) := by decide +kernel
theorem dX5_type_25 : decode cX5_type 25 = .ok (.if_icmp .lt 8, 3) := by decide +kernel
theorem dX5_type_28 : decode cX5_type 28 = .ok (.aload_n 0, 1) := by decide +kernel
theorem dX5_type_29 : decode cX5_type 29 = .ok (.invokevirtual 78, 3) := by decide +kernel
theorem dX5_type_32 : decode cX5_type 32 = .ok (.ireturn, 1) := by decide +kernel
theorem dX5_type_33 : decode cX5_type 33 = .ok (.aload_n 0, 1) := by decide +kernel
theorem dX5_type_34 : decode cX5_type 34 = .ok (.getfield 35, 3) := by decide +kernel
theorem dX5_type_37 : decode cX5_type 37 = .ok (.iload_n 1, 1) := by decide +kernel
theorem dX5_type_38 : decode cX5_type 38 = .ok (.invokevirtual 105, 3) := by decide +kernel
theorem dX5_type_41 : decode cX5_type 41 = .ok (.aload_n 0, 1) := by decide +kernel
theorem dX5_type_42 : decode cX5_type 42 = .ok (.getfield 35, 3) := by decide +kernel
theorem dX5_type_45 : decode cX5_type 45 = .ok (.getfield 102, 3) := by decide +kernel
theorem dX5_type_48 : decode cX5_type 48 = .ok (.ireturn, 1) := by decide +kernel
theorem dX5_clear_0 : decode cX5_clear 0 = .ok (.aload_n 0, 1) := by decide +kernel
theorem dX5_clear_1 : decode cX5_clear 1 = .ok (.getfield 35, 3) := by decide +kernel
theorem dX5_clear_4 : decode cX5_clear 4 = .ok (.getfield 102, 3) := by decide +kernel
theorem dX5_clear_7 : decode cX5_clear 7 = .ok (.istore_n 1, 1) := by decide +kernel
theorem dX5_clear_8 : decode cX5_clear 8 = .ok (.aload_n 0, 1) := by decide +kernel
theorem dX5_clear_9 : decode cX5_clear 9 = .ok (.getfield 35, 3) := by decide +kernel
theorem dX5_clear_12 : decode cX5_clear 12 = .ok (.iconst 0, 1) := by decide +kernel
theorem dX5_clear_13 : decode cX5_clear 13 = .ok (.putfield 102, 3) := by decide +kernel
theorem dX5_clear_16 : decode cX5_clear 16 = .ok (.iload_n 1, 1) := by decide +kernel
theorem dX5_clear_17 : decode cX5_clear 17 = .ok (.ireturn, 1) := by decide +kernel
set_option maxRecDepth 20000 in
theorem ggX5_read_X3_faultInto : GoodIn wsX5_read wsX3_faultInto := goodIn_r _ [9, 10, 11, 12, 13, 8, 14, 15, 16, 17, 18, 19, 20, 21, 22, 23, 24, 25, 26, 27, 28, 29, 30, 31, 32, 33, 34, 35, 36, 37, 38, 39, 40, 41, 42, 43, 44, 45, 46, 47, 48, 49, 50, 51, 52, 53, 54, 55, 56, 57, 58, 59, 60, 61, 62, 63, 64, 65, 66, 67, 68, 69, 70, 71, 72, 73, 74, 75, 76, 77, 78, 79, 80, 81, 82, 83, 84, 85, 86, 87, 88, 89, 90, 91, 92, 93, 94, 95, 96, 97, 98, 99, 100, 101, 102, 103, 104, 105, 106, 107, 108, 109, 110, 111, 112, 113, 114, 115, 116, 117, 118, 119, 120, 121, 122, 123, 165, 166, 167, 168, 169, 170, 151, 152, 153, 154, 155, 156, 157, 158, 159, 160, 161, 162, 163, 164] (by decide +kernel) (by decide +kernel)
set_option maxRecDepth 20000 in
theorem gX5_read_X3_faultInto : GoodIn wsX5_read (wsV RX5 108 RX3 yX3_faultInto wsX3_faultInto) := goodIn_app (goodIn_of _ (by decide +kernel)) ggX5_read_X3_faultInto
set_option maxRecDepth 20000 in
theorem ggX5_read_X0_copyFrom : GoodIn wsX5_read wsX0_copyFrom := goodIn_r _ [127, 107, 108, 109, 110, 111, 112, 113, 118, 119, 128, 129, 130, 131, 132, 133, 134, 135, 19, 136, 21, 137, 17, 18, 20, 151, 152, 153, 154, 155, 156, 157, 158, 159, 160, 161, 162, 163, 164, 170] (by decide +kernel) (by decide +kernel)
set_option maxRecDepth 20000 in
theorem gX5_read_X0_copyFrom : GoodIn wsX5_read (wsV RX5 112 RX0 yX0_copyFrom wsX0_copyFrom) := goodIn_app (goodIn_of _ (by decide +kernel)) ggX5_read_X0_copyFrom
theorem dX5_read_0 : decode cX5_read 0 = .ok (.aload_n 0, 1) := by decide +kernel
theorem dX5_read_1 : decode cX5_read 1 = .ok (.getfield 35, 3) := by decide +kernel
theorem dX5_read_4 : decode cX5_read 4 = .ok (.aload_n 0, 1) := by decide +kernel
theorem dX5_read_5 : decode cX5_read 5 = .ok (.getfield 22, 3) := by decide +kernel
theorem dX5_read_8 : decode cX5_read 8 = .ok (.invokevirtual 108, 3) := by decide +kernel
theorem dX5_read_11 : decode cX5_read 11 = .ok (.istore_n 1, 1) := by decide +kernel
theorem dX5_read_12 : decode cX5_read 12 = .ok (.iload_n 1, 1) := by decide +kernel
theorem dX5_read_13 : decode cX5_read 13 = .ok (.iconst (-1), 1) := by decide +kernel
theorem dX5_read_14 : decode cX5_read 14 = .ok (.if_icmp .eq 8, 3) := by decide +kernel
theorem dX5_read_17 : decode cX5_read 17 = .ok (.bipush (-10), 2) := by decide +kernel
theorem dX5_read_19 : decode cX5_read 19 = .ok (.iload_n 1, 1) := by decide +kernel
theorem dX5_read_20 : decode cX5_read 20 = .ok (.isub, 1) := by decide +kernel
theorem dX5_read_21 : decode cX5_read 21 = .ok (.ireturn, 1) := by decide +kernel
theorem dX5_read_22 : decode cX5_read 22 = .ok (.aload_n 0, 1) := by decide +kernel
theorem dX5_read_23 : decode cX5_read 23 = .ok (.getfield 10, 3) := by decide +kernel
theorem dX5_read_26 : decode cX5_read 26 = .ok (.aload_n 0, 1) := by decide +kernel
theorem dX5_read_27 : decode cX5_read 27 = .ok (.getfield 22, 3) := by decide +kernel
theorem dX5_read_30 : decode cX5_read 30 = .ok (.invokevirtual 112, 3) := by decide +kernel
theorem dX5_read_33 : decode cX5_read 33 = .ok (.iconst 1, 1) := by decide +kernel
theorem dX5_read_34 : decode cX5_read 34 = .ok (.aload_n 0, 1) := by decide +kernel
theorem dX5_read_35 : decode cX5_read 35 = .ok (.getfield 10, 3) := by decide +kernel
theorem dX5_read_38 : decode cX5_read 38 = .ok (.getfield 71, 3) := by decide +kernel
theorem dX5_read_41 : decode cX5_read 41 = .ok (.iadd, 1) := by decide +kernel
theorem dX5_read_42 : decode cX5_read 42 = .ok (.ireturn, 1) := by decide +kernel
set_option maxRecDepth 20000 in
theorem ggX5_run_X5_isRun : GoodIn wsX5_run wsX5_isRun := goodIn_r _ [11, 12, 13, 10, 14] (by decide +kernel) (by decide +kernel)
set_option maxRecDepth 20000 in
theorem gX5_run_X5_isRun : GoodIn wsX5_run (va_wsS RX5 116 yX5_isRun wsX5_isRun) := goodIn_app (goodIn_of _ (by decide +kernel)) ggX5_run_X5_isRun
set_option maxRecDepth 20000 in
theorem ggX5_run_X5_refusedBad : GoodIn wsX5_run wsX5_refusedBad := goodIn_r _ [18, 19, 125, 126, 127, 128, 129, 130, 131, 132, 133, 134, 135, 136, 137] (by decide +kernel) (by decide +kernel)
set_option maxRecDepth 20000 in
theorem gX5_run_X5_refusedBad : GoodIn wsX5_run (wsV RX5 67 RX5 yX5_refusedBad wsX5_refusedBad) := goodIn_app (goodIn_of _ (by decide +kernel)) ggX5_run_X5_refusedBad
set_option maxRecDepth 20000 in
theorem ggX5_run_X4_tell : GoodIn wsX5_run wsX4_tell := goodIn_r _ [24, 25, 26, 27, 28, 29, 30, 31, 32, 33, 152, 153, 154, 155, 156, 157, 158, 159, 160, 161, 162, 163, 164, 165, 138, 139, 140, 141, 142, 143, 144, 145, 146, 147, 148, 149, 150, 151] (by decide +kernel) (by decide +kernel)
set_option maxRecDepth 20000 in
theorem gX5_run_X4_tell : GoodIn wsX5_run (wsV RX5 120 RX4 yX4_tell wsX4_tell) := goodIn_app (goodIn_of _ (by decide +kernel)) ggX5_run_X4_tell
set_option maxRecDepth 20000 in
theorem ggX5_run_X4_go : GoodIn wsX5_run wsX4_go := goodIn_r _ [37, 38, 39, 40, 25, 41, 30, 42, 43, 44, 26, 45, 46, 33, 28, 47, 48, 49, 50, 51, 52, 53, 54, 55, 56, 57, 58, 59, 60, 61, 62, 63, 64, 65, 66, 67, 68, 69, 70, 71, 72, 23, 73, 32, 74, 75, 76, 77, 78, 79, 80, 81, 82, 83, 84, 85, 27, 86, 87, 88, 89, 10, 90, 91, 92, 93, 94, 95, 96, 97, 98, 99, 100, 152, 153, 154, 155, 156, 157, 158, 159, 160, 161, 162, 163, 164, 165, 138, 139, 140, 141, 142, 143, 144, 145, 146, 147, 148, 149, 150, 151, 166] (by decide +kernel) (by decide +kernel)
set_option maxRecDepth 20000 in
theorem gX5_run_X4_go : GoodIn wsX5_run (wsV RX5 124 RX4 yX4_go wsX4_go) := goodIn_app (goodIn_of _ (by decide +kernel)) ggX5_run_X4_go
set_option maxRecDepth 20000 in
theorem ggX5_run_X0_remember : GoodIn wsX5_run wsX0_remember := goodIn_r _ [104, 105, 106, 107, 108, 109, 110, 111, 112, 113, 114, 56, 115, 58, 116, 79, 80, 81, 138, 139, 140, 141, 142, 143, 144, 145, 146, 147, 148, 149, 150, 151, 166] (by decide +kernel) (by decide +kernel)
set_option maxRecDepth 20000 in
theorem gX5_run_X0_remember : GoodIn wsX5_run (wsV RX5 92 RX0 yX0_remember wsX0_remember) := goodIn_app (goodIn_of _ (by decide +kernel)) ggX5_run_X0_remember
set_option maxRecDepth 20000 in
theorem ggX5_run_X4_standsBehind : GoodIn wsX5_run wsX4_standsBehind := goodIn_r _ [120, 25, 121, 122, 123, 50, 124, 52, 152, 153, 154, 155, 156, 157, 158, 159, 160, 161, 162, 163, 164, 165, 138, 139, 140, 141, 142, 143, 144, 145, 146, 147, 148, 149, 150, 151] (by decide +kernel) (by decide +kernel)
set_option maxRecDepth 20000 in
theorem gX5_run_X4_standsBehind : GoodIn wsX5_run (wsV RX5 127 RX4 yX4_standsBehind wsX4_standsBehind) := goodIn_app (goodIn_of _ (by decide +kernel)) ggX5_run_X4_standsBehind
theorem dX5_run_0 : decode cX5_run 0 = .ok (.iload_n 1, 1) := by decide +kernel
theorem dX5_run_1 : decode cX5_run 1 = .ok (.iload_n 2, 1) := by decide +kernel
theorem dX5_run_2 : decode cX5_run 2 = .ok (.iload_n 3, 1) := by decide +kernel
theorem dX5_run_3 : decode cX5_run 3 = .ok (.iload 4, 2) := by decide +kernel
theorem dX5_run_5 : decode cX5_run 5 = .ok (.invokestatic 116, 3) := by decide +kernel
theorem dX5_run_8 : decode cX5_run 8 = .ok (.ifCond .ne 8, 3) := by decide +kernel
theorem dX5_run_11 : decode cX5_run 11 = .ok (.aload_n 0, 1) := by decide +kernel
theorem dX5_run_12 : decode cX5_run 12 = .ok (.invokevirtual 67, 3) := by decide +kernel
theorem dX5_run_15 : decode cX5_run 15 = .ok (.ireturn, 1) := by decide +kernel
theorem dX5_run_16 : decode cX5_run 16 = .ok (.aload_n 0, 1) := by decide +kernel
theorem dX5_run_17 : decode cX5_run 17 = .ok (.getfield 28, 3) := by decide +kernel
theorem dX5_run_20 : decode cX5_run 20 = .ok (.aload_n 0, 1) := by decide +kernel
theorem dX5_run_21 : decode cX5_run 21 = .ok (.getfield 10, 3) := by decide +kernel
theorem dX5_run_24 : decode cX5_run 24 = .ok (.iload_n 1, 1) := by decide +kernel
theorem dX5_run_25 : decode cX5_run 25 = .ok (.iload_n 2, 1) := by decide +kernel
theorem dX5_run_26 : decode cX5_run 26 = .ok (.iload_n 3, 1) := by decide +kernel
theorem dX5_run_27 : decode cX5_run 27 = .ok (.iload 4, 2) := by decide +kernel
theorem dX5_run_29 : decode cX5_run 29 = .ok (.invokevirtual 120, 3) := by decide +kernel
theorem dX5_run_32 : decode cX5_run 32 = .ok (.aload_n 0, 1) := by decide +kernel
theorem dX5_run_33 : decode cX5_run 33 = .ok (.getfield 28, 3) := by decide +kernel
theorem dX5_run_36 : decode cX5_run 36 = .ok (.aload_n 0, 1) := by decide +kernel
theorem dX5_run_37 : decode cX5_run 37 = .ok (.getfield 10, 3) := by decide +kernel
theorem dX5_run_40 : decode cX5_run 40 = .ok (.invokevirtual 124, 3) := by decide +kernel
theorem dX5_run_43 : decode cX5_run 43 = .ok (.pop, 1) := by decide +kernel
theorem dX5_run_44 : decode cX5_run 44 = .ok (.aload_n 0, 1) := by decide +kernel
theorem dX5_run_45 : decode cX5_run 45 = .ok (.getfield 10, 3) := by decide +kernel
theorem dX5_run_48 : decode cX5_run 48 = .ok (.invokevirtual 92, 3) := by decide +kernel
theorem dX5_run_51 : decode cX5_run 51 = .ok (.aload_n 0, 1) := by decide +kernel
theorem dX5_run_52 : decode cX5_run 52 = .ok (.getfield 10, 3) := by decide +kernel
theorem dX5_run_55 : decode cX5_run 55 = .ok (.aload_n 0, 1) := by decide +kernel
theorem dX5_run_56 : decode cX5_run 56 = .ok (.getfield 28, 3) := by decide +kernel
theorem dX5_run_59 : decode cX5_run 59 = .ok (.aload_n 0, 1) := by decide +kernel
theorem dX5_run_60 : decode cX5_run 60 = .ok (.getfield 10, 3) := by decide +kernel
theorem dX5_run_63 : decode cX5_run 63 = .ok (.invokevirtual 127, 3) := by decide +kernel
theorem dX5_run_66 : decode cX5_run 66 = .ok (.putfield 95, 3) := by decide +kernel
theorem dX5_run_69 : decode cX5_run 69 = .ok (.aload_n 0, 1) := by decide +kernel
theorem dX5_run_70 : decode cX5_run 70 = .ok (.getfield 10, 3) := by decide +kernel
theorem dX5_run_73 : decode cX5_run 73 = .ok (.dup, 1) := by decide +kernel
theorem dX5_run_74 : decode cX5_run 74 = .ok (.getfield 130, 3) := by decide +kernel
theorem dX5_run_77 : decode cX5_run 77 = .ok (.aload_n 0, 1) := by decide +kernel
theorem dX5_run_78 : decode cX5_run 78 = .ok (.getfield 28, 3) := by decide +kernel
theorem dX5_run_81 : decode cX5_run 81 = .ok (.getfield 133, 3) := by decide +kernel
theorem dX5_run_84 : decode cX5_run 84 = .ok (.iadd, 1) := by decide +kernel
theorem dX5_run_85 : decode cX5_run 85 = .ok (.putfield 130, 3) := by decide +kernel
theorem dX5_run_88 : decode cX5_run 88 = .ok (.aload_n 0, 1) := by decide +kernel
theorem dX5_run_89 : decode cX5_run 89 = .ok (.getfield 10, 3) := by decide +kernel
theorem dX5_run_92 : decode cX5_run 92 = .ok (.dup, 1) := by decide +kernel
theorem dX5_run_93 : decode cX5_run 93 = .ok (.getfield 136, 3) := by decide +kernel
theorem dX5_run_96 : decode cX5_run 96 = .ok (.aload_n 0, 1) := by decide +kernel
theorem dX5_run_97 : decode cX5_run 97 = .ok (.getfield 28, 3) := by decide +kernel
theorem dX5_run_100 : decode cX5_run 100 = .ok (.getfield 139, 3) := by decide +kernel
theorem dX5_run_103 : decode cX5_run 103 = .ok (.iadd, 1) := by decide +kernel
theorem dX5_run_104 : decode cX5_run 104 = .ok (.putfield 136, 3) := by decide +kernel
theorem dX5_run_107 : decode cX5_run 107 = .ok (.aload_n 0, 1) := by decide +kernel
theorem dX5_run_108 : decode cX5_run 108 = .ok (.getfield 28, 3) := by decide +kernel
theorem dX5_run_111 : decode cX5_run 111 = .ok (.getfield 133, 3) := by decide +kernel
theorem dX5_run_114 : decode cX5_run 114 = .ok (.ireturn, 1) := by decide +kernel
set_option maxRecDepth 20000 in
theorem ggX5_undo_X5_refusedNo : GoodIn wsX5_undo wsX5_refusedNo := goodIn_r _ [8, 9, 28, 29, 30, 31, 32, 33, 34, 35, 36, 37, 38, 39, 40] (by decide +kernel) (by decide +kernel)
set_option maxRecDepth 20000 in
theorem gX5_undo_X5_refusedNo : GoodIn wsX5_undo (wsV RX5 143 RX5 yX5_refusedNo wsX5_refusedNo) := goodIn_app (goodIn_of _ (by decide +kernel)) ggX5_undo_X5_refusedNo
set_option maxRecDepth 20000 in
theorem ggX5_undo_X0_goBack : GoodIn wsX5_undo wsX0_goBack := goodIn_r _ [14, 15, 16, 17, 18, 19, 20, 21, 22, 23, 24, 25, 26, 27, 41, 42, 43, 44, 45, 46, 47, 48, 49, 50, 51, 52, 53, 54, 55] (by decide +kernel) (by decide +kernel)
set_option maxRecDepth 20000 in
theorem gX5_undo_X0_goBack : GoodIn wsX5_undo (wsV RX5 146 RX0 yX0_goBack wsX0_goBack) := goodIn_app (goodIn_of _ (by decide +kernel)) ggX5_undo_X0_goBack
theorem dX5_undo_0 : decode cX5_undo 0 = .ok (.aload_n 0, 1) := by decide +kernel
theorem dX5_undo_1 : decode cX5_undo 1 = .ok (.getfield 10, 3) := by decide +kernel
theorem dX5_undo_4 : decode cX5_undo 4 = .ok (.getfield 140, 3) := by decide +kernel
theorem dX5_undo_7 : decode cX5_undo 7 = .ok (.ifCond .ne 8, 3) := by decide +kernel
theorem dX5_undo_10 : decode cX5_undo 10 = .ok (.aload_n 0, 1) := by decide +kernel
theorem dX5_undo_11 : decode cX5_undo 11 = .ok (.invokevirtual 143, 3) := by decide +kernel
theorem dX5_undo_14 : decode cX5_undo 14 = .ok (.ireturn, 1) := by decide +kernel
theorem dX5_undo_15 : decode cX5_undo 15 = .ok (.aload_n 0, 1) := by decide +kernel
theorem dX5_undo_16 : decode cX5_undo 16 = .ok (.getfield 10, 3) := by decide +kernel
theorem dX5_undo_19 : decode cX5_undo 19 = .ok (.invokevirtual 146, 3) := by decide +kernel
theorem dX5_undo_22 : decode cX5_undo 22 = .ok (.aload_n 0, 1) := by decide +kernel
theorem dX5_undo_23 : decode cX5_undo 23 = .ok (.getfield 10, 3) := by decide +kernel
theorem dX5_undo_26 : decode cX5_undo 26 = .ok (.getfield 130, 3) := by decide +kernel
theorem dX5_undo_29 : decode cX5_undo 29 = .ok (.ireturn, 1) := by decide +kernel
set_option maxRecDepth 20000 in
theorem ggX5_of_X0_has : GoodIn wsX5_of wsX0_has := goodIn_r _ [9, 10, 11, 12, 13, 54, 55, 56, 57, 58, 59, 60, 61, 62, 63, 64, 65, 66, 67] (by decide +kernel) (by decide +kernel)
set_option maxRecDepth 20000 in
theorem gX5_of_X0_has : GoodIn wsX5_of (wsV RX5 88 RX0 yX0_has wsX0_has) := goodIn_app (goodIn_of _ (by decide +kernel)) ggX5_of_X0_has
set_option maxRecDepth 20000 in
theorem ggX5_of_X5_within : GoodIn wsX5_of wsX5_within := goodIn_r _ [13] (by decide +kernel) (by decide +kernel)
set_option maxRecDepth 20000 in
theorem gX5_of_X5_within : GoodIn wsX5_of (va_wsS RX5 63 yX5_within wsX5_within) := goodIn_app (goodIn_of _ (by decide +kernel)) ggX5_of_X5_within
set_option maxRecDepth 20000 in
theorem ggX5_of_X5_refusedBad : GoodIn wsX5_of wsX5_refusedBad := goodIn_r _ [18, 19, 41, 42, 43, 44, 45, 46, 47, 48, 49, 50, 51, 52, 53] (by decide +kernel) (by decide +kernel)
set_option maxRecDepth 20000 in
theorem gX5_of_X5_refusedBad : GoodIn wsX5_of (wsV RX5 67 RX5 yX5_refusedBad wsX5_refusedBad) := goodIn_app (goodIn_of _ (by decide +kernel)) ggX5_of_X5_refusedBad
set_option maxRecDepth 20000 in
theorem ggX5_of_X2_get : GoodIn wsX5_of wsX2_get := goodIn_r _ [24, 25, 68] (by decide +kernel) (by decide +kernel)
set_option maxRecDepth 20000 in
theorem gX5_of_X2_get : GoodIn wsX5_of (wsV RX5 153 RX2 yX2_get wsX2_get) := goodIn_app (goodIn_of _ (by decide +kernel)) ggX5_of_X2_get
set_option maxRecDepth 20000 in
theorem ggX5_of_X0_standsOf : GoodIn wsX5_of wsX0_standsOf := goodIn_r _ [29, 30, 54, 55, 56, 57, 58, 59, 60, 61, 62, 63, 64, 65, 66, 67] (by decide +kernel) (by decide +kernel)
set_option maxRecDepth 20000 in
theorem gX5_of_X0_standsOf : GoodIn wsX5_of (wsV RX5 98 RX0 yX0_standsOf wsX0_standsOf) := goodIn_app (goodIn_of _ (by decide +kernel)) ggX5_of_X0_standsOf
set_option maxRecDepth 20000 in
theorem ggX5_of_X1_readyMinutes : GoodIn wsX5_of wsX1_readyMinutes := goodIn_r _ [34] (by decide +kernel) (by decide +kernel)
set_option maxRecDepth 20000 in
theorem gX5_of_X1_readyMinutes : GoodIn wsX5_of (va_wsS RX5 161 yX1_readyMinutes wsX1_readyMinutes) := goodIn_app (goodIn_of _ (by decide +kernel)) ggX5_of_X1_readyMinutes
set_option maxRecDepth 20000 in
theorem ggX5_of_X1_passedMinutes : GoodIn wsX5_of wsX1_passedMinutes := goodIn_r _ [37] (by decide +kernel) (by decide +kernel)
set_option maxRecDepth 20000 in
theorem gX5_of_X1_passedMinutes : GoodIn wsX5_of (va_wsS RX5 167 yX1_passedMinutes wsX1_passedMinutes) := goodIn_app (goodIn_of _ (by decide +kernel)) ggX5_of_X1_passedMinutes
set_option maxRecDepth 20000 in
theorem ggX5_of_X1_staysMinutes : GoodIn wsX5_of wsX1_staysMinutes := goodIn_r _ [40] (by decide +kernel) (by decide +kernel)
set_option maxRecDepth 20000 in
theorem gX5_of_X1_staysMinutes : GoodIn wsX5_of (va_wsS RX5 170 yX1_staysMinutes wsX1_staysMinutes) := goodIn_app (goodIn_of _ (by decide +kernel)) ggX5_of_X1_staysMinutes
theorem dX5_of_0 : decode cX5_of 0 = .ok (.aload_n 0, 1) := by decide +kernel
theorem dX5_of_1 : decode cX5_of 1 = .ok (.getfield 10, 3) := by decide +kernel
theorem dX5_of_4 : decode cX5_of 4 = .ok (.iload_n 1, 1) := by decide +kernel
theorem dX5_of_5 : decode cX5_of 5 = .ok (.invokevirtual 88, 3) := by decide +kernel
theorem dX5_of_8 : decode cX5_of 8 = .ok (.ifCond .eq 12, 3) := by decide +kernel
theorem dX5_of_11 : decode cX5_of 11 = .ok (.iload_n 2, 1) := by decide +kernel
theorem dX5_of_12 : decode cX5_of 12 = .ok (.iconst 0, 1) := by decide +kernel
theorem dX5_of_13 : decode cX5_of 13 = .ok (.iconst 5, 1) := by decide +kernel
theorem dX5_of_14 : decode cX5_of 14 = .ok (.invokestatic 63, 3) := by decide +kernel
theorem dX5_of_17 : decode cX5_of 17 = .ok (.ifCond .ne 8, 3) := by decide +kernel
theorem dX5_of_20 : decode cX5_of 20 = .ok (.aload_n 0, 1) := by decide +kernel
theorem dX5_of_21 : decode cX5_of 21 = .ok (.invokevirtual 67, 3) := by decide +kernel
theorem dX5_of_24 : decode cX5_of 24 = .ok (.ireturn, 1) := by decide +kernel
theorem dX5_of_25 : decode cX5_of 25 = .ok (.aload_n 0, 1) := by decide +kernel
theorem dX5_of_26 : decode cX5_of 26 = .ok (.getfield 10, 3) := by decide +kernel
theorem dX5_of_29 : decode cX5_of 29 = .ok (.getfield 149, 3) := by decide +kernel
theorem dX5_of_32 : decode cX5_of 32 = .ok (.iload_n 1, 1) := by decide +kernel
theorem dX5_of_33 : decode cX5_of 33 = .ok (.invokevirtual 153, 3) := by decide +kernel
theorem dX5_of_36 : decode cX5_of 36 = .ok (.istore_n 3, 1) := by decide +kernel
theorem dX5_of_37 : decode cX5_of 37 = .ok (.iload_n 2, 1) := by decide +kernel
theorem dX5_of_38 : decode cX5_of 38 = .ok (.tableswitch 81 0 4 #[34, 36, 45, 57, 69], 34) := by decide +kernel
theorem dX5_of_72 : decode cX5_of 72 = .ok (.iload_n 3, 1) := by decide +kernel
theorem dX5_of_73 : decode cX5_of 73 = .ok (.ireturn, 1) := by decide +kernel
theorem dX5_of_74 : decode cX5_of 74 = .ok (.aload_n 0, 1) := by decide +kernel
theorem dX5_of_75 : decode cX5_of 75 = .ok (.getfield 10, 3) := by decide +kernel
theorem dX5_of_78 : decode cX5_of 78 = .ok (.iload_n 1, 1) := by decide +kernel
theorem dX5_of_79 : decode cX5_of 79 = .ok (.invokevirtual 98, 3) := by decide +kernel
theorem dX5_of_82 : decode cX5_of 82 = .ok (.ireturn, 1) := by decide +kernel
theorem dX5_of_83 : decode cX5_of 83 = .ok (.aload_n 0, 1) := by decide +kernel
theorem dX5_of_84 : decode cX5_of 84 = .ok (.getfield 10, 3) := by decide +kernel
theorem dX5_of_87 : decode cX5_of 87 = .ok (.getfield 158, 3) := by decide +kernel
theorem dX5_of_90 : decode cX5_of 90 = .ok (.iload_n 1, 1) := by decide +kernel
theorem dX5_of_91 : decode cX5_of 91 = .ok (.invokevirtual 153, 3) := by decide +kernel
theorem dX5_of_94 : decode cX5_of 94 = .ok (.ireturn, 1) := by decide +kernel
theorem dX5_of_95 : decode cX5_of 95 = .ok (.iload_n 3, 1) := by decide +kernel
theorem dX5_of_96 : decode cX5_of 96 = .ok (.aload_n 0, 1) := by decide +kernel
theorem dX5_of_97 : decode cX5_of 97 = .ok (.getfield 10, 3) := by decide +kernel
theorem dX5_of_100 : decode cX5_of 100 = .ok (.getfield 85, 3) := by decide +kernel
theorem dX5_of_103 : decode cX5_of 103 = .ok (.invokestatic 161, 3) := by decide +kernel
theorem dX5_of_106 : decode cX5_of 106 = .ok (.ireturn, 1) := by decide +kernel
theorem dX5_of_107 : decode cX5_of 107 = .ok (.iload_n 3, 1) := by decide +kernel
theorem dX5_of_108 : decode cX5_of 108 = .ok (.aload_n 0, 1) := by decide +kernel
theorem dX5_of_109 : decode cX5_of 109 = .ok (.getfield 10, 3) := by decide +kernel
theorem dX5_of_112 : decode cX5_of 112 = .ok (.getfield 85, 3) := by decide +kernel
theorem dX5_of_115 : decode cX5_of 115 = .ok (.invokestatic 167, 3) := by decide +kernel
theorem dX5_of_118 : decode cX5_of 118 = .ok (.ireturn, 1) := by decide +kernel
theorem dX5_of_119 : decode cX5_of 119 = .ok (.iload_n 3, 1) := by decide +kernel
theorem dX5_of_120 : decode cX5_of 120 = .ok (.invokestatic 170, 3) := by decide +kernel
theorem dX5_of_123 : decode cX5_of 123 = .ok (.ireturn, 1) := by decide +kernel
set_option maxRecDepth 20000 in
theorem ggX5_takes_X5_isRun : GoodIn wsX5_takes wsX5_isRun := goodIn_r _ [8, 9, 10, 7, 11] (by decide +kernel) (by decide +kernel)
set_option maxRecDepth 20000 in
theorem gX5_takes_X5_isRun : GoodIn wsX5_takes (va_wsS RX5 116 yX5_isRun wsX5_isRun) := goodIn_app (goodIn_of _ (by decide +kernel)) ggX5_takes_X5_isRun
set_option maxRecDepth 20000 in
theorem ggX5_takes_X5_within : GoodIn wsX5_takes wsX5_within := goodIn_r _ [11] (by decide +kernel) (by decide +kernel)
set_option maxRecDepth 20000 in
theorem gX5_takes_X5_within : GoodIn wsX5_takes (va_wsS RX5 63 yX5_within wsX5_within) := goodIn_app (goodIn_of _ (by decide +kernel)) ggX5_takes_X5_within
set_option maxRecDepth 20000 in
theorem ggX5_takes_X5_refusedBad : GoodIn wsX5_takes wsX5_refusedBad := goodIn_r _ [15, 16, 98, 99, 100, 101, 102, 103, 104, 105, 106, 107, 108, 109, 110] (by decide +kernel) (by decide +kernel)
set_option maxRecDepth 20000 in
theorem gX5_takes_X5_refusedBad : GoodIn wsX5_takes (wsV RX5 67 RX5 yX5_refusedBad wsX5_refusedBad) := goodIn_app (goodIn_of _ (by decide +kernel)) ggX5_takes_X5_refusedBad
set_option maxRecDepth 20000 in
theorem ggX5_takes_X4_tell : GoodIn wsX5_takes wsX4_tell := goodIn_r _ [21, 22, 23, 24, 25, 26, 27, 28, 29, 30, 111, 112, 113, 114, 115, 116, 117, 118, 119, 120, 121, 122, 123, 124, 125, 126, 127, 128, 129, 130, 131, 132, 133, 134, 135, 136, 137, 138] (by decide +kernel) (by decide +kernel)
set_option maxRecDepth 20000 in
theorem gX5_takes_X4_tell : GoodIn wsX5_takes (wsV RX5 120 RX4 yX4_tell wsX4_tell) := goodIn_app (goodIn_of _ (by decide +kernel)) ggX5_takes_X4_tell
set_option maxRecDepth 20000 in
theorem ggX5_takes_X4_go : GoodIn wsX5_takes wsX4_go := goodIn_r _ [34, 35, 36, 37, 22, 38, 27, 39, 40, 41, 23, 42, 43, 30, 25, 44, 45, 46, 47, 48, 49, 50, 51, 52, 53, 54, 55, 56, 57, 58, 59, 60, 61, 62, 63, 64, 65, 66, 67, 68, 69, 20, 70, 29, 71, 72, 73, 74, 75, 76, 77, 78, 79, 80, 81, 82, 24, 83, 84, 85, 86, 7, 87, 88, 89, 90, 91, 92, 93, 94, 95, 96, 97, 111, 112, 113, 114, 115, 116, 117, 118, 119, 120, 121, 122, 123, 124, 125, 126, 127, 128, 129, 130, 131, 132, 133, 134, 135, 136, 137, 138, 139] (by decide +kernel) (by decide +kernel)
set_option maxRecDepth 20000 in
theorem gX5_takes_X4_go : GoodIn wsX5_takes (wsV RX5 124 RX4 yX4_go wsX4_go) := goodIn_app (goodIn_of _ (by decide +kernel)) ggX5_takes_X4_go
theorem dX5_takes_0 : decode cX5_takes 0 = .ok (.iload_n 1, 1) := by decide +kernel
theorem dX5_takes_1 : decode cX5_takes 1 = .ok (.iload_n 2, 1) := by decide +kernel
theorem dX5_takes_2 : decode cX5_takes 2 = .ok (.iload_n 3, 1) := by decide +kernel
theorem dX5_takes_3 : decode cX5_takes 3 = .ok (.iload 4, 2) := by decide +kernel
theorem dX5_takes_5 : decode cX5_takes 5 = .ok (.invokestatic 116, 3) := by decide +kernel
theorem dX5_takes_8 : decode cX5_takes 8 = .ok (.ifCond .eq 13, 3) := by decide +kernel
theorem dX5_takes_11 : decode cX5_takes 11 = .ok (.iload 5, 2) := by decide +kernel
theorem dX5_takes_13 : decode cX5_takes 13 = .ok (.iconst 0, 1) := by decide +kernel
theorem dX5_takes_14 : decode cX5_takes 14 = .ok (.iconst 1, 1) := by decide +kernel
theorem dX5_takes_15 : decode cX5_takes 15 = .ok (.invokestatic 63, 3) := by decide +kernel
theorem dX5_takes_18 : decode cX5_takes 18 = .ok (.ifCond .ne 8, 3) := by decide +kernel
theorem dX5_takes_21 : decode cX5_takes 21 = .ok (.aload_n 0, 1) := by decide +kernel
theorem dX5_takes_22 : decode cX5_takes 22 = .ok (.invokevirtual 67, 3) := by decide +kernel
theorem dX5_takes_25 : decode cX5_takes 25 = .ok (.ireturn, 1) := by decide +kernel
theorem dX5_takes_26 : decode cX5_takes 26 = .ok (.aload_n 0, 1) := by decide +kernel
theorem dX5_takes_27 : decode cX5_takes 27 = .ok (.getfield 28, 3) := by decide +kernel
theorem dX5_takes_30 : decode cX5_takes 30 = .ok (.aload_n 0, 1) := by decide +kernel
theorem dX5_takes_31 : decode cX5_takes 31 = .ok (.getfield 10, 3) := by decide +kernel
theorem dX5_takes_34 : decode cX5_takes 34 = .ok (.iload_n 1, 1) := by decide +kernel
theorem dX5_takes_35 : decode cX5_takes 35 = .ok (.iload_n 2, 1) := by decide +kernel
theorem dX5_takes_36 : decode cX5_takes 36 = .ok (.iload_n 3, 1) := by decide +kernel
theorem dX5_takes_37 : decode cX5_takes 37 = .ok (.iload 4, 2) := by decide +kernel
theorem dX5_takes_39 : decode cX5_takes 39 = .ok (.invokevirtual 120, 3) := by decide +kernel
theorem dX5_takes_42 : decode cX5_takes 42 = .ok (.aload_n 0, 1) := by decide +kernel
theorem dX5_takes_43 : decode cX5_takes 43 = .ok (.getfield 28, 3) := by decide +kernel
theorem dX5_takes_46 : decode cX5_takes 46 = .ok (.aload_n 0, 1) := by decide +kernel
theorem dX5_takes_47 : decode cX5_takes 47 = .ok (.getfield 10, 3) := by decide +kernel
theorem dX5_takes_50 : decode cX5_takes 50 = .ok (.invokevirtual 124, 3) := by decide +kernel
theorem dX5_takes_53 : decode cX5_takes 53 = .ok (.pop, 1) := by decide +kernel
theorem dX5_takes_54 : decode cX5_takes 54 = .ok (.iload 5, 2) := by decide +kernel
theorem dX5_takes_56 : decode cX5_takes 56 = .ok (.ifCond .ne 13, 3) := by decide +kernel
theorem dX5_takes_59 : decode cX5_takes 59 = .ok (.aload_n 0, 1) := by decide +kernel
theorem dX5_takes_60 : decode cX5_takes 60 = .ok (.getfield 28, 3) := by decide +kernel
theorem dX5_takes_63 : decode cX5_takes 63 = .ok (.getfield 133, 3) := by decide +kernel
theorem dX5_takes_66 : decode cX5_takes 66 = .ok (.goto 10, 3) := by decide +kernel
theorem dX5_takes_69 : decode cX5_takes 69 = .ok (.aload_n 0, 1) := by decide +kernel
theorem dX5_takes_70 : decode cX5_takes 70 = .ok (.getfield 28, 3) := by decide +kernel
theorem dX5_takes_73 : decode cX5_takes 73 = .ok (.getfield 139, 3) := by decide +kernel
theorem dX5_takes_76 : decode cX5_takes 76 = .ok (.ireturn, 1) := by decide +kernel
set_option maxRecDepth 20000 in
theorem ggX5_at_X5_isRun : GoodIn wsX5_at wsX5_isRun := goodIn_r _ [11, 12, 13, 10, 14] (by decide +kernel) (by decide +kernel)
set_option maxRecDepth 20000 in
theorem gX5_at_X5_isRun : GoodIn wsX5_at (va_wsS RX5 116 yX5_isRun wsX5_isRun) := goodIn_app (goodIn_of _ (by decide +kernel)) ggX5_at_X5_isRun
set_option maxRecDepth 20000 in
theorem ggX5_at_X0_has : GoodIn wsX5_at wsX0_has := goodIn_r _ [19, 20, 13, 10, 14, 133, 134, 135, 136, 137, 138, 139, 140, 141, 142, 143, 144, 145, 146] (by decide +kernel) (by decide +kernel)
set_option maxRecDepth 20000 in
theorem gX5_at_X0_has : GoodIn wsX5_at (wsV RX5 88 RX0 yX0_has wsX0_has) := goodIn_app (goodIn_of _ (by decide +kernel)) ggX5_at_X0_has
set_option maxRecDepth 20000 in
theorem ggX5_at_X5_within : GoodIn wsX5_at wsX5_within := goodIn_r _ [14] (by decide +kernel) (by decide +kernel)
set_option maxRecDepth 20000 in
theorem gX5_at_X5_within : GoodIn wsX5_at (va_wsS RX5 63 yX5_within wsX5_within) := goodIn_app (goodIn_of _ (by decide +kernel)) ggX5_at_X5_within
set_option maxRecDepth 20000 in
theorem ggX5_at_X5_refusedBad : GoodIn wsX5_at wsX5_refusedBad := goodIn_r _ [24, 25, 106, 107, 108, 109, 110, 111, 112, 113, 114, 115, 116, 117, 118] (by decide +kernel) (by decide +kernel)
set_option maxRecDepth 20000 in
theorem gX5_at_X5_refusedBad : GoodIn wsX5_at (wsV RX5 67 RX5 yX5_refusedBad wsX5_refusedBad) := goodIn_app (goodIn_of _ (by decide +kernel)) ggX5_at_X5_refusedBad
set_option maxRecDepth 20000 in
theorem ggX5_at_X4_tell : GoodIn wsX5_at wsX4_tell := goodIn_r _ [30, 31, 32, 33, 34, 35, 36, 37, 38, 39, 119, 120, 121, 122, 123, 124, 125, 126, 127, 128, 129, 130, 131, 132, 133, 134, 135, 136, 137, 138, 139, 140, 141, 142, 143, 144, 145, 146] (by decide +kernel) (by decide +kernel)
set_option maxRecDepth 20000 in
theorem gX5_at_X4_tell : GoodIn wsX5_at (wsV RX5 120 RX4 yX4_tell wsX4_tell) := goodIn_app (goodIn_of _ (by decide +kernel)) ggX5_at_X4_tell
set_option maxRecDepth 20000 in
theorem ggX5_at_X4_go : GoodIn wsX5_at wsX4_go := goodIn_r _ [43, 44, 45, 46, 31, 47, 36, 48, 49, 50, 32, 51, 52, 39, 34, 53, 54, 55, 18, 56, 20, 57, 58, 59, 60, 61, 62, 63, 64, 65, 66, 67, 68, 69, 70, 71, 72, 73, 74, 75, 76, 29, 77, 38, 78, 79, 80, 81, 82, 83, 84, 85, 86, 87, 88, 89, 33, 90, 91, 92, 93, 10, 94, 95, 96, 97, 98, 99, 100, 101, 102, 103, 104, 119, 120, 121, 122, 123, 124, 125, 126, 127, 128, 129, 130, 131, 132, 133, 134, 135, 136, 137, 138, 139, 140, 141, 142, 143, 144, 145, 146, 147] (by decide +kernel) (by decide +kernel)
set_option maxRecDepth 20000 in
theorem gX5_at_X4_go : GoodIn wsX5_at (wsV RX5 124 RX4 yX4_go wsX4_go) := goodIn_app (goodIn_of _ (by decide +kernel)) ggX5_at_X4_go
set_option maxRecDepth 20000 in
theorem ggX5_at_X2_get : GoodIn wsX5_at wsX2_get := goodIn_r _ [61, 62, 147] (by decide +kernel) (by decide +kernel)
set_option maxRecDepth 20000 in
theorem gX5_at_X2_get : GoodIn wsX5_at (wsV RX5 153 RX2 yX2_get wsX2_get) := goodIn_app (goodIn_of _ (by decide +kernel)) ggX5_at_X2_get
theorem dX5_at_0 : decode cX5_at 0 = .ok (.iload_n 1, 1) := by decide +kernel
theorem dX5_at_1 : decode cX5_at 1 = .ok (.iload_n 2, 1) := by decide +kernel
theorem dX5_at_2 : decode cX5_at 2 = .ok (.iload_n 3, 1) := by decide +kernel
theorem dX5_at_3 : decode cX5_at 3 = .ok (.iload 4, 2) := by decide +kernel
theorem dX5_at_5 : decode cX5_at 5 = .ok (.invokestatic 116, 3) := by decide +kernel
theorem dX5_at_8 : decode cX5_at 8 = .ok (.ifCond .eq 25, 3) := by decide +kernel
theorem dX5_at_11 : decode cX5_at 11 = .ok (.aload_n 0, 1) := by decide +kernel
theorem dX5_at_12 : decode cX5_at 12 = .ok (.getfield 10, 3) := by decide +kernel
theorem dX5_at_15 : decode cX5_at 15 = .ok (.iload 5, 2) := by decide +kernel
theorem dX5_at_17 : decode cX5_at 17 = .ok (.invokevirtual 88, 3) := by decide +kernel
theorem dX5_at_20 : decode cX5_at 20 = .ok (.ifCond .eq 13, 3) := by decide +kernel
theorem dX5_at_23 : decode cX5_at 23 = .ok (.iload 6, 2) := by decide +kernel
theorem dX5_at_25 : decode cX5_at 25 = .ok (.iconst 0, 1) := by decide +kernel
theorem dX5_at_26 : decode cX5_at 26 = .ok (.iconst 4, 1) := by decide +kernel
theorem dX5_at_27 : decode cX5_at 27 = .ok (.invokestatic 63, 3) := by decide +kernel
theorem dX5_at_30 : decode cX5_at 30 = .ok (.ifCond .ne 8, 3) := by decide +kernel
theorem dX5_at_33 : decode cX5_at 33 = .ok (.aload_n 0, 1) := by decide +kernel
theorem dX5_at_34 : decode cX5_at 34 = .ok (.invokevirtual 67, 3) := by decide +kernel
theorem dX5_at_37 : decode cX5_at 37 = .ok (.ireturn, 1) := by decide +kernel
theorem dX5_at_38 : decode cX5_at 38 = .ok (.aload_n 0, 1) := by decide +kernel
theorem dX5_at_39 : decode cX5_at 39 = .ok (.getfield 28, 3) := by decide +kernel
theorem dX5_at_42 : decode cX5_at 42 = .ok (.aload_n 0, 1) := by decide +kernel
theorem dX5_at_43 : decode cX5_at 43 = .ok (.getfield 10, 3) := by decide +kernel
theorem dX5_at_46 : decode cX5_at 46 = .ok (.iload_n 1, 1) := by decide +kernel
theorem dX5_at_47 : decode cX5_at 47 = .ok (.iload_n 2, 1) := by decide +kernel
theorem dX5_at_48 : decode cX5_at 48 = .ok (.iload_n 3, 1) := by decide +kernel
theorem dX5_at_49 : decode cX5_at 49 = .ok (.iload 4, 2) := by decide +kernel
theorem dX5_at_51 : decode cX5_at 51 = .ok (.invokevirtual 120, 3) := by decide +kernel
theorem dX5_at_54 : decode cX5_at 54 = .ok (.aload_n 0, 1) := by decide +kernel
theorem dX5_at_55 : decode cX5_at 55 = .ok (.getfield 28, 3) := by decide +kernel
theorem dX5_at_58 : decode cX5_at 58 = .ok (.aload_n 0, 1) := by decide +kernel
theorem dX5_at_59 : decode cX5_at 59 = .ok (.getfield 10, 3) := by decide +kernel
theorem dX5_at_62 : decode cX5_at 62 = .ok (.invokevirtual 124, 3) := by decide +kernel
theorem dX5_at_65 : decode cX5_at 65 = .ok (.pop, 1) := by decide +kernel
theorem dX5_at_66 : decode cX5_at 66 = .ok (.iload 6, 2) := by decide +kernel
theorem dX5_at_68 : decode cX5_at 68 = .ok (.tableswitch 84 0 3 #[32, 45, 58, 71], 32) := by decide +kernel
theorem dX5_at_100 : decode cX5_at 100 = .ok (.aload_n 0, 1) := by decide +kernel
theorem dX5_at_101 : decode cX5_at 101 = .ok (.getfield 28, 3) := by decide +kernel
theorem dX5_at_104 : decode cX5_at 104 = .ok (.getfield 173, 3) := by decide +kernel
theorem dX5_at_107 : decode cX5_at 107 = .ok (.iload 5, 2) := by decide +kernel
theorem dX5_at_109 : decode cX5_at 109 = .ok (.invokevirtual 153, 3) := by decide +kernel
theorem dX5_at_112 : decode cX5_at 112 = .ok (.ireturn, 1) := by decide +kernel
theorem dX5_at_113 : decode cX5_at 113 = .ok (.aload_n 0, 1) := by decide +kernel
theorem dX5_at_114 : decode cX5_at 114 = .ok (.getfield 28, 3) := by decide +kernel
theorem dX5_at_117 : decode cX5_at 117 = .ok (.getfield 176, 3) := by decide +kernel
theorem dX5_at_120 : decode cX5_at 120 = .ok (.iload 5, 2) := by decide +kernel
theorem dX5_at_122 : decode cX5_at 122 = .ok (.invokevirtual 153, 3) := by decide +kernel
theorem dX5_at_125 : decode cX5_at 125 = .ok (.ireturn, 1) := by decide +kernel
theorem dX5_at_126 : decode cX5_at 126 = .ok (.aload_n 0, 1) := by decide +kernel
theorem dX5_at_127 : decode cX5_at 127 = .ok (.getfield 28, 3) := by decide +kernel
theorem dX5_at_130 : decode cX5_at 130 = .ok (.getfield 179, 3) := by decide +kernel
theorem dX5_at_133 : decode cX5_at 133 = .ok (.iload 5, 2) := by decide +kernel
theorem dX5_at_135 : decode cX5_at 135 = .ok (.invokevirtual 153, 3) := by decide +kernel
theorem dX5_at_138 : decode cX5_at 138 = .ok (.ireturn, 1) := by decide +kernel
theorem dX5_at_139 : decode cX5_at 139 = .ok (.aload_n 0, 1) := by decide +kernel
theorem dX5_at_140 : decode cX5_at 140 = .ok (.getfield 28, 3) := by decide +kernel
theorem dX5_at_143 : decode cX5_at 143 = .ok (.getfield 182, 3) := by decide +kernel
theorem dX5_at_146 : decode cX5_at 146 = .ok (.iload 5, 2) := by decide +kernel
theorem dX5_at_148 : decode cX5_at 148 = .ok (.invokevirtual 153, 3) := by decide +kernel
theorem dX5_at_151 : decode cX5_at 151 = .ok (.ireturn, 1) := by decide +kernel
theorem dX5_at_152 : decode cX5_at 152 = .ok (.aload_n 0, 1) := by decide +kernel
theorem dX5_at_153 : decode cX5_at 153 = .ok (.getfield 28, 3) := by decide +kernel
theorem dX5_at_156 : decode cX5_at 156 = .ok (.getfield 185, 3) := by decide +kernel
theorem dX5_at_159 : decode cX5_at 159 = .ok (.iload 5, 2) := by decide +kernel
theorem dX5_at_161 : decode cX5_at 161 = .ok (.invokevirtual 153, 3) := by decide +kernel
theorem dX5_at_164 : decode cX5_at 164 = .ok (.ireturn, 1) := by decide +kernel
set_option maxRecDepth 20000 in
theorem ggX5_lead_X5_isLedRun : GoodIn wsX5_lead wsX5_isLedRun := goodIn_r _ [4, 5, 6, 3, 7, 8, 9, 10] (by decide +kernel) (by decide +kernel)
set_option maxRecDepth 20000 in
theorem gX5_lead_X5_isLedRun : GoodIn wsX5_lead (va_wsS RX5 188 yX5_isLedRun wsX5_isLedRun) := goodIn_app (goodIn_of _ (by decide +kernel)) ggX5_lead_X5_isLedRun
set_option maxRecDepth 20000 in
theorem ggX5_lead_X5_refusedBad : GoodIn wsX5_lead wsX5_refusedBad := goodIn_r _ [14, 15, 104, 105, 106, 107, 108, 109, 110, 111, 112, 113, 114, 115, 116] (by decide +kernel) (by decide +kernel)
set_option maxRecDepth 20000 in
theorem gX5_lead_X5_refusedBad : GoodIn wsX5_lead (wsV RX5 67 RX5 yX5_refusedBad wsX5_refusedBad) := goodIn_app (goodIn_of _ (by decide +kernel)) ggX5_lead_X5_refusedBad
set_option maxRecDepth 20000 in
theorem ggX5_lead_X5_bestLead : GoodIn wsX5_lead wsX5_bestLead := goodIn_r _ [19, 20, 21, 22, 23, 24, 25, 26, 27, 28, 29, 30, 31, 32, 33, 34, 35, 36, 37, 38, 39, 40, 41, 42, 43, 44, 45, 46, 47, 48, 49, 50, 51, 52, 53, 54, 55, 56, 57, 58, 59, 60, 61, 62, 63, 64, 65, 66, 67, 68, 69, 70, 71, 72, 73, 74, 75, 76, 77, 78, 79, 80, 81, 82, 83, 84, 85, 86, 87, 88, 89, 90, 91, 92, 3, 93, 94, 95, 96, 97, 98, 99, 100, 101, 102, 103, 104, 105, 106, 107, 108, 109, 110, 111, 112, 113, 114, 115, 116, 117, 118, 119, 120, 121, 122, 123, 124, 125, 126, 127, 128, 129, 130, 131, 132, 133, 134, 135, 136, 137, 138, 139, 140, 141, 142, 143, 144, 145] (by decide +kernel) (by decide +kernel)
set_option maxRecDepth 20000 in
theorem gX5_lead_X5_bestLead : GoodIn wsX5_lead (wsV RX5 191 RX5 yX5_bestLead wsX5_bestLead) := goodIn_app (goodIn_of _ (by decide +kernel)) ggX5_lead_X5_bestLead
theorem dX5_lead_0 : decode cX5_lead 0 = .ok (.iload_n 1, 1) := by decide +kernel
theorem dX5_lead_1 : decode cX5_lead 1 = .ok (.iload_n 2, 1) := by decide +kernel
theorem dX5_lead_2 : decode cX5_lead 2 = .ok (.iload_n 3, 1) := by decide +kernel
theorem dX5_lead_3 : decode cX5_lead 3 = .ok (.invokestatic 188, 3) := by decide +kernel
theorem dX5_lead_6 : decode cX5_lead 6 = .ok (.ifCond .ne 8, 3) := by decide +kernel
theorem dX5_lead_9 : decode cX5_lead 9 = .ok (.aload_n 0, 1) := by decide +kernel
theorem dX5_lead_10 : decode cX5_lead 10 = .ok (.invokevirtual 67, 3) := by decide +kernel
theorem dX5_lead_13 : decode cX5_lead 13 = .ok (.ireturn, 1) := by decide +kernel
theorem dX5_lead_14 : decode cX5_lead 14 = .ok (.aload_n 0, 1) := by decide +kernel
theorem dX5_lead_15 : decode cX5_lead 15 = .ok (.iload_n 1, 1) := by decide +kernel
theorem dX5_lead_16 : decode cX5_lead 16 = .ok (.iload_n 2, 1) := by decide +kernel
theorem dX5_lead_17 : decode cX5_lead 17 = .ok (.iload_n 3, 1) := by decide +kernel
theorem dX5_lead_18 : decode cX5_lead 18 = .ok (.invokevirtual 191, 3) := by decide +kernel
theorem dX5_lead_21 : decode cX5_lead 21 = .ok (.ireturn, 1) := by decide +kernel
set_option maxRecDepth 20000 in
theorem ggX5_worth_X5_within : GoodIn wsX5_worth wsX5_within := goodIn_r _ [4] (by decide +kernel) (by decide +kernel)
set_option maxRecDepth 20000 in
theorem gX5_worth_X5_within : GoodIn wsX5_worth (va_wsS RX5 63 yX5_within wsX5_within) := goodIn_app (goodIn_of _ (by decide +kernel)) ggX5_worth_X5_within
set_option maxRecDepth 20000 in
theorem ggX5_worth_X5_refusedBadFar : GoodIn wsX5_worth wsX5_refusedBadFar := goodIn_r _ [8, 9, 102, 103, 104, 105, 106, 107, 108, 109, 110, 111, 112, 113, 114] (by decide +kernel) (by decide +kernel)
set_option maxRecDepth 20000 in
theorem gX5_worth_X5_refusedBadFar : GoodIn wsX5_worth (wsV RX5 195 RX5 yX5_refusedBadFar wsX5_refusedBadFar) := goodIn_app (goodIn_of _ (by decide +kernel)) ggX5_worth_X5_refusedBadFar
set_option maxRecDepth 20000 in
theorem ggX5_worth_X5_minutesByBestLead : GoodIn wsX5_worth wsX5_minutesByBestLead := goodIn_r _ [13, 14, 15, 16, 17, 18, 3, 19, 20, 21, 22, 23, 24, 25, 26, 27, 28, 29, 30, 31, 32, 33, 34, 35, 36, 37, 38, 39, 40, 41, 42, 43, 44, 45, 46, 47, 48, 49, 50, 51, 52, 53, 54, 55, 56, 57, 58, 59, 60, 61, 62, 63, 64, 65, 66, 67, 68, 69, 70, 71, 72, 73, 74, 75, 76, 77, 78, 79, 80, 81, 82, 83, 84, 85, 86, 87, 88, 89, 90, 91, 92, 93, 94, 95, 96, 97, 98, 99, 100, 101, 102, 103, 104, 105, 106, 107, 108, 109, 110, 111, 112, 113, 114, 115, 116, 117, 118, 119, 120, 121, 122, 123, 124, 125, 126, 127, 128, 129, 130, 131, 132, 133, 134, 135, 136, 137, 138, 139, 140, 141, 142, 143] (by decide +kernel) (by decide +kernel)
set_option maxRecDepth 20000 in
theorem gX5_worth_X5_minutesByBestLead : GoodIn wsX5_worth (wsV RX5 198 RX5 yX5_minutesByBestLead wsX5_minutesByBestLead) := goodIn_app (goodIn_of _ (by decide +kernel)) ggX5_worth_X5_minutesByBestLead
theorem dX5_worth_0 : decode cX5_worth 0 = .ok (.iload_n 1, 1) := by decide +kernel
theorem dX5_worth_1 : decode cX5_worth 1 = .ok (.iconst 0, 1) := by decide +kernel
theorem dX5_worth_2 : decode cX5_worth 2 = .ok (.iconst 1, 1) := by decide +kernel
theorem dX5_worth_3 : decode cX5_worth 3 = .ok (.invokestatic 63, 3) := by decide +kernel
theorem dX5_worth_6 : decode cX5_worth 6 = .ok (.ifCond .eq 12, 3) := by decide +kernel
theorem dX5_worth_9 : decode cX5_worth 9 = .ok (.iload_n 2, 1) := by decide +kernel
theorem dX5_worth_10 : decode cX5_worth 10 = .ok (.iconst 0, 1) := by decide +kernel
theorem dX5_worth_11 : decode cX5_worth 11 = .ok (.iconst 1, 1) := by decide +kernel
theorem dX5_worth_12 : decode cX5_worth 12 = .ok (.invokestatic 63, 3) := by decide +kernel
theorem dX5_worth_15 : decode cX5_worth 15 = .ok (.ifCond .ne 8, 3) := by decide +kernel
theorem dX5_worth_18 : decode cX5_worth 18 = .ok (.aload_n 0, 1) := by decide +kernel
theorem dX5_worth_19 : decode cX5_worth 19 = .ok (.invokevirtual 195, 3) := by decide +kernel
theorem dX5_worth_22 : decode cX5_worth 22 = .ok (.ireturn, 1) := by decide +kernel
theorem dX5_worth_23 : decode cX5_worth 23 = .ok (.aload_n 0, 1) := by decide +kernel
theorem dX5_worth_24 : decode cX5_worth 24 = .ok (.iload_n 1, 1) := by decide +kernel
theorem dX5_worth_25 : decode cX5_worth 25 = .ok (.iconst 1, 1) := by decide +kernel
theorem dX5_worth_26 : decode cX5_worth 26 = .ok (.iload_n 2, 1) := by decide +kernel
theorem dX5_worth_27 : decode cX5_worth 27 = .ok (.invokevirtual 198, 3) := by decide +kernel
theorem dX5_worth_30 : decode cX5_worth 30 = .ok (.aload_n 0, 1) := by decide +kernel
theorem dX5_worth_31 : decode cX5_worth 31 = .ok (.iload_n 1, 1) := by decide +kernel
theorem dX5_worth_32 : decode cX5_worth 32 = .ok (.iconst 2, 1) := by decide +kernel
theorem dX5_worth_33 : decode cX5_worth 33 = .ok (.iload_n 2, 1) := by decide +kernel
theorem dX5_worth_34 : decode cX5_worth 34 = .ok (.invokevirtual 198, 3) := by decide +kernel
theorem dX5_worth_37 : decode cX5_worth 37 = .ok (.isub, 1) := by decide +kernel
theorem dX5_worth_38 : decode cX5_worth 38 = .ok (.ireturn, 1) := by decide +kernel
set_option maxRecDepth 20000 in
theorem ggX5_strong_X5_isRun : GoodIn wsX5_strong wsX5_isRun := goodIn_r _ [7, 8, 9, 6, 10] (by decide +kernel) (by decide +kernel)
set_option maxRecDepth 20000 in
theorem gX5_strong_X5_isRun : GoodIn wsX5_strong (va_wsS RX5 116 yX5_isRun wsX5_isRun) := goodIn_app (goodIn_of _ (by decide +kernel)) ggX5_strong_X5_isRun
set_option maxRecDepth 20000 in
theorem ggX5_strong_X5_refusedBad : GoodIn wsX5_strong wsX5_refusedBad := goodIn_r _ [14, 15, 97, 98, 99, 100, 101, 102, 103, 104, 105, 106, 107, 108, 109] (by decide +kernel) (by decide +kernel)
set_option maxRecDepth 20000 in
theorem gX5_strong_X5_refusedBad : GoodIn wsX5_strong (wsV RX5 67 RX5 yX5_refusedBad wsX5_refusedBad) := goodIn_app (goodIn_of _ (by decide +kernel)) ggX5_strong_X5_refusedBad
set_option maxRecDepth 20000 in
theorem ggX5_strong_X4_tell : GoodIn wsX5_strong wsX4_tell := goodIn_r _ [20, 21, 22, 23, 24, 25, 26, 27, 28, 29, 110, 111, 112, 113, 114, 115, 116, 117, 118, 119, 120, 121, 122, 123, 124, 125, 126, 127, 128, 129, 130, 131, 132, 133, 134, 135, 136, 137] (by decide +kernel) (by decide +kernel)
set_option maxRecDepth 20000 in
theorem gX5_strong_X4_tell : GoodIn wsX5_strong (wsV RX5 120 RX4 yX4_tell wsX4_tell) := goodIn_app (goodIn_of _ (by decide +kernel)) ggX5_strong_X4_tell
set_option maxRecDepth 20000 in
theorem ggX5_strong_X4_go : GoodIn wsX5_strong wsX4_go := goodIn_r _ [33, 34, 35, 36, 21, 37, 26, 38, 39, 40, 22, 41, 42, 29, 24, 43, 44, 45, 46, 47, 48, 49, 50, 51, 52, 53, 54, 55, 56, 57, 58, 59, 60, 61, 62, 63, 64, 65, 66, 67, 68, 19, 69, 28, 70, 71, 72, 73, 74, 75, 76, 77, 78, 79, 80, 81, 23, 82, 83, 84, 85, 6, 86, 87, 88, 89, 90, 91, 92, 93, 94, 95, 96, 110, 111, 112, 113, 114, 115, 116, 117, 118, 119, 120, 121, 122, 123, 124, 125, 126, 127, 128, 129, 130, 131, 132, 133, 134, 135, 136, 137, 138] (by decide +kernel) (by decide +kernel)
set_option maxRecDepth 20000 in
theorem gX5_strong_X4_go : GoodIn wsX5_strong (wsV RX5 124 RX4 yX4_go wsX4_go) := goodIn_app (goodIn_of _ (by decide +kernel)) ggX5_strong_X4_go
theorem dX5_strong_0 : decode cX5_strong 0 = .ok (.iload_n 1, 1) := by decide +kernel
theorem dX5_strong_1 : decode cX5_strong 1 = .ok (.iload_n 2, 1) := by decide +kernel
theorem dX5_strong_2 : decode cX5_strong 2 = .ok (.iload_n 3, 1) := by decide +kernel
theorem dX5_strong_3 : decode cX5_strong 3 = .ok (.iload 4, 2) := by decide +kernel
theorem dX5_strong_5 : decode cX5_strong 5 = .ok (.invokestatic 116, 3) := by decide +kernel
theorem dX5_strong_8 : decode cX5_strong 8 = .ok (.ifCond .ne 8, 3) := by decide +kernel
theorem dX5_strong_11 : decode cX5_strong 11 = .ok (.aload_n 0, 1) := by decide +kernel
theorem dX5_strong_12 : decode cX5_strong 12 = .ok (.invokevirtual 67, 3) := by decide +kernel
theorem dX5_strong_15 : decode cX5_strong 15 = .ok (.ireturn, 1) := by decide +kernel
theorem dX5_strong_16 : decode cX5_strong 16 = .ok (.aload_n 0, 1) := by decide +kernel
theorem dX5_strong_17 : decode cX5_strong 17 = .ok (.getfield 28, 3) := by decide +kernel
theorem dX5_strong_20 : decode cX5_strong 20 = .ok (.aload_n 0, 1) := by decide +kernel
theorem dX5_strong_21 : decode cX5_strong 21 = .ok (.getfield 10, 3) := by decide +kernel
theorem dX5_strong_24 : decode cX5_strong 24 = .ok (.iload_n 1, 1) := by decide +kernel
theorem dX5_strong_25 : decode cX5_strong 25 = .ok (.iload_n 2, 1) := by decide +kernel
theorem dX5_strong_26 : decode cX5_strong 26 = .ok (.iload_n 3, 1) := by decide +kernel
theorem dX5_strong_27 : decode cX5_strong 27 = .ok (.iload 4, 2) := by decide +kernel
theorem dX5_strong_29 : decode cX5_strong 29 = .ok (.invokevirtual 120, 3) := by decide +kernel
theorem dX5_strong_32 : decode cX5_strong 32 = .ok (.aload_n 0, 1) := by decide +kernel
theorem dX5_strong_33 : decode cX5_strong 33 = .ok (.getfield 28, 3) := by decide +kernel
theorem dX5_strong_36 : decode cX5_strong 36 = .ok (.iconst 0, 1) := by decide +kernel
theorem dX5_strong_37 : decode cX5_strong 37 = .ok (.putfield 201, 3) := by decide +kernel
theorem dX5_strong_40 : decode cX5_strong 40 = .ok (.iconst 0, 1) := by decide +kernel
theorem dX5_strong_41 : decode cX5_strong 41 = .ok (.istore 5, 2) := by decide +kernel
theorem dX5_strong_43 : decode cX5_strong 43 = .ok (.aload_n 0, 1) := by decide +kernel
theorem dX5_strong_44 : decode cX5_strong 44 = .ok (.getfield 28, 3) := by decide +kernel
theorem dX5_strong_47 : decode cX5_strong 47 = .ok (.aload_n 0, 1) := by decide +kernel
theorem dX5_strong_48 : decode cX5_strong 48 = .ok (.getfield 10, 3) := by decide +kernel
theorem dX5_strong_51 : decode cX5_strong 51 = .ok (.invokevirtual 124, 3) := by decide +kernel
theorem dX5_strong_54 : decode cX5_strong 54 = .ok (.istore 6, 2) := by decide +kernel
theorem dX5_strong_56 : decode cX5_strong 56 = .ok (.iconst 1, 1) := by decide +kernel
theorem dX5_strong_57 : decode cX5_strong 57 = .ok (.istore 7, 2) := by decide +kernel
theorem dX5_strong_59 : decode cX5_strong 59 = .ok (.iload 7, 2) := by decide +kernel
theorem dX5_strong_61 : decode cX5_strong 61 = .ok (.bipush 9, 2) := by decide +kernel
theorem dX5_strong_63 : decode cX5_strong 63 = .ok (.if_icmp .gt 46, 3) := by decide +kernel
theorem dX5_strong_66 : decode cX5_strong 66 = .ok (.aload_n 0, 1) := by decide +kernel
theorem dX5_strong_67 : decode cX5_strong 67 = .ok (.getfield 28, 3) := by decide +kernel
theorem dX5_strong_70 : decode cX5_strong 70 = .ok (.iload 7, 2) := by decide +kernel
theorem dX5_strong_72 : decode cX5_strong 72 = .ok (.putfield 201, 3) := by decide +kernel
theorem dX5_strong_75 : decode cX5_strong 75 = .ok (.aload_n 0, 1) := by decide +kernel
theorem dX5_strong_76 : decode cX5_strong 76 = .ok (.getfield 28, 3) := by decide +kernel
theorem dX5_strong_79 : decode cX5_strong 79 = .ok (.aload_n 0, 1) := by decide +kernel
theorem dX5_strong_80 : decode cX5_strong 80 = .ok (.getfield 10, 3) := by decide +kernel
theorem dX5_strong_83 : decode cX5_strong 83 = .ok (.invokevirtual 124, 3) := by decide +kernel
theorem dX5_strong_86 : decode cX5_strong 86 = .ok (.istore 8, 2) := by decide +kernel
theorem dX5_strong_88 : decode cX5_strong 88 = .ok (.iload 8, 2) := by decide +kernel
theorem dX5_strong_90 : decode cX5_strong 90 = .ok (.iload 6, 2) := by decide +kernel
theorem dX5_strong_92 : decode cX5_strong 92 = .ok (.if_icmp .ge 11, 3) := by decide +kernel
theorem dX5_strong_95 : decode cX5_strong 95 = .ok (.iload 8, 2) := by decide +kernel
theorem dX5_strong_97 : decode cX5_strong 97 = .ok (.istore 6, 2) := by decide +kernel
theorem dX5_strong_99 : decode cX5_strong 99 = .ok (.iload 7, 2) := by decide +kernel
theorem dX5_strong_101 : decode cX5_strong 101 = .ok (.istore 5, 2) := by decide +kernel
theorem dX5_strong_103 : decode cX5_strong 103 = .ok (.iinc 7 1, 3) := by decide +kernel
theorem dX5_strong_106 : decode cX5_strong 106 = .ok (.goto (-47), 3) := by decide +kernel
theorem dX5_strong_109 : decode cX5_strong 109 = .ok (.iload 5, 2) := by decide +kernel
theorem dX5_strong_111 : decode cX5_strong 111 = .ok (.ireturn, 1) := by decide +kernel
set_option maxRecDepth 20000 in
theorem ggX5_hire_X5_isRun : GoodIn wsX5_hire wsX5_isRun := goodIn_r _ [6, 7, 8, 5, 9] (by decide +kernel) (by decide +kernel)
set_option maxRecDepth 20000 in
theorem gX5_hire_X5_isRun : GoodIn wsX5_hire (va_wsS RX5 116 yX5_isRun wsX5_isRun) := goodIn_app (goodIn_of _ (by decide +kernel)) ggX5_hire_X5_isRun
set_option maxRecDepth 20000 in
theorem ggX5_hire_X5_within : GoodIn wsX5_hire wsX5_within := goodIn_r _ [9] (by decide +kernel) (by decide +kernel)
set_option maxRecDepth 20000 in
theorem gX5_hire_X5_within : GoodIn wsX5_hire (va_wsS RX5 63 yX5_within wsX5_within) := goodIn_app (goodIn_of _ (by decide +kernel)) ggX5_hire_X5_within
set_option maxRecDepth 20000 in
theorem ggX5_hire_X5_refusedBad : GoodIn wsX5_hire wsX5_refusedBad := goodIn_r _ [13, 14, 112, 113, 114, 115, 116, 117, 118, 119, 120, 121, 122, 123, 124] (by decide +kernel) (by decide +kernel)
set_option maxRecDepth 20000 in
theorem gX5_hire_X5_refusedBad : GoodIn wsX5_hire (wsV RX5 67 RX5 yX5_refusedBad wsX5_refusedBad) := goodIn_app (goodIn_of _ (by decide +kernel)) ggX5_hire_X5_refusedBad
set_option maxRecDepth 20000 in
theorem ggX5_hire_X4_tell : GoodIn wsX5_hire wsX4_tell := goodIn_r _ [19, 20, 21, 22, 23, 24, 25, 26, 27, 28, 125, 126, 127, 128, 129, 130, 131, 132, 133, 134, 135, 136, 137, 138, 139, 140, 141, 142, 143, 144, 145, 146, 147, 148, 149, 150, 151, 152] (by decide +kernel) (by decide +kernel)
set_option maxRecDepth 20000 in
theorem gX5_hire_X4_tell : GoodIn wsX5_hire (wsV RX5 120 RX4 yX4_tell wsX4_tell) := goodIn_app (goodIn_of _ (by decide +kernel)) ggX5_hire_X4_tell
set_option maxRecDepth 20000 in
theorem ggX5_hire_X4_go : GoodIn wsX5_hire wsX4_go := goodIn_r _ [32, 33, 34, 35, 20, 36, 25, 37, 38, 39, 21, 40, 41, 28, 23, 42, 43, 44, 45, 46, 47, 48, 49, 50, 51, 52, 53, 54, 55, 56, 57, 58, 59, 60, 61, 62, 63, 64, 65, 66, 67, 18, 68, 27, 69, 70, 71, 72, 73, 74, 75, 76, 77, 78, 79, 80, 22, 81, 82, 83, 84, 5, 85, 86, 87, 88, 89, 90, 91, 92, 93, 94, 95, 125, 126, 127, 128, 129, 130, 131, 132, 133, 134, 135, 136, 137, 138, 139, 140, 141, 142, 143, 144, 145, 146, 147, 148, 149, 150, 151, 152, 153] (by decide +kernel) (by decide +kernel)
set_option maxRecDepth 20000 in
theorem gX5_hire_X4_go : GoodIn wsX5_hire (wsV RX5 124 RX4 yX4_go wsX4_go) := goodIn_app (goodIn_of _ (by decide +kernel)) ggX5_hire_X4_go
set_option maxRecDepth 20000 in
theorem ggX5_hire_X0_allLocks : GoodIn wsX5_hire wsX0_allLocks := goodIn_r _ [99, 47, 139, 140, 141, 142, 143, 144, 145, 146, 147, 148, 149, 150, 151, 152] (by decide +kernel) (by decide +kernel)
set_option maxRecDepth 20000 in
theorem gX5_hire_X0_allLocks : GoodIn wsX5_hire (wsV RX5 202 RX0 yX0_allLocks wsX0_allLocks) := goodIn_app (goodIn_of _ (by decide +kernel)) ggX5_hire_X0_allLocks
set_option maxRecDepth 20000 in
theorem ggX5_hire_J6_bitCount_0f7a4 : GoodIn wsX5_hire wsJ6_bitCount_0f7a4 := goodIn_r _ [103, 104, 105, 106] (by decide +kernel) (by decide +kernel)
set_option maxRecDepth 20000 in
theorem gX5_hire_J6_bitCount_0f7a4 : GoodIn wsX5_hire (va_wsS RX5 205 yJ6_bitCount_0f7a4 wsJ6_bitCount_0f7a4) := goodIn_app (goodIn_of _ (by decide +kernel)) ggX5_hire_J6_bitCount_0f7a4
set_option maxRecDepth 20000 in
theorem ggX5_hire_X4_goWithRight : GoodIn wsX5_hire wsX4_goWithRight := goodIn_r _ [110, 27, 20, 111, 30, 31, 18, 32, 33, 34, 35, 36, 25, 37, 38, 39, 21, 40, 41, 28, 23, 42, 43, 44, 45, 46, 47, 48, 49, 50, 51, 52, 53, 54, 55, 56, 57, 58, 59, 60, 61, 62, 63, 64, 65, 66, 67, 68, 69, 70, 71, 72, 73, 74, 75, 76, 77, 78, 79, 80, 22, 81, 82, 83, 84, 5, 85, 86, 87, 88, 89, 90, 91, 92, 93, 94, 95, 125, 126, 127, 128, 129, 130, 131, 132, 133, 134, 135, 136, 137, 138, 139, 140, 141, 142, 143, 144, 145, 146, 147, 148, 149, 150, 151, 152, 153] (by decide +kernel) (by decide +kernel)
set_option maxRecDepth 20000 in
theorem gX5_hire_X4_goWithRight : GoodIn wsX5_hire (wsV RX5 210 RX4 yX4_goWithRight wsX4_goWithRight) := goodIn_app (goodIn_of _ (by decide +kernel)) ggX5_hire_X4_goWithRight
theorem dX5_hire_0 : decode cX5_hire 0 = .ok (.iload_n 1, 1) := by decide +kernel
theorem dX5_hire_1 : decode cX5_hire 1 = .ok (.iload_n 2, 1) := by decide +kernel
theorem dX5_hire_2 : decode cX5_hire 2 = .ok (.iload_n 3, 1) := by decide +kernel
theorem dX5_hire_3 : decode cX5_hire 3 = .ok (.iconst 0, 1) := by decide +kernel
theorem dX5_hire_4 : decode cX5_hire 4 = .ok (.invokestatic 116, 3) := by decide +kernel
theorem dX5_hire_7 : decode cX5_hire 7 = .ok (.ifCond .eq 23, 3) := by decide +kernel
theorem dX5_hire_10 : decode cX5_hire 10 = .ok (.iload 4, 2) := by decide +kernel
theorem dX5_hire_12 : decode cX5_hire 12 = .ok (.iconst 0, 1) := by decide +kernel
theorem dX5_hire_13 : decode cX5_hire 13 = .ok (.iconst 3, 1) := by decide +kernel
theorem dX5_hire_14 : decode cX5_hire 14 = .ok (.invokestatic 63, 3) := by decide +kernel
theorem dX5_hire_17 : decode cX5_hire 17 = .ok (.ifCond .eq 13, 3) := by decide +kernel
theorem dX5_hire_20 : decode cX5_hire 20 = .ok (.iload 5, 2) := by decide +kernel
theorem dX5_hire_22 : decode cX5_hire 22 = .ok (.iconst 0, 1) := by decide +kernel
theorem dX5_hire_23 : decode cX5_hire 23 = .ok (.iconst 1, 1) := by decide +kernel
theorem dX5_hire_24 : decode cX5_hire 24 = .ok (.invokestatic 63, 3) := by decide +kernel
theorem dX5_hire_27 : decode cX5_hire 27 = .ok (.ifCond .ne 8, 3) := by decide +kernel
theorem dX5_hire_30 : decode cX5_hire 30 = .ok (.aload_n 0, 1) := by decide +kernel
theorem dX5_hire_31 : decode cX5_hire 31 = .ok (.invokevirtual 67, 3) := by decide +kernel
theorem dX5_hire_34 : decode cX5_hire 34 = .ok (.ireturn, 1) := by decide +kernel
theorem dX5_hire_35 : decode cX5_hire 35 = .ok (.aload_n 0, 1) := by decide +kernel
theorem dX5_hire_36 : decode cX5_hire 36 = .ok (.getfield 28, 3) := by decide +kernel
theorem dX5_hire_39 : decode cX5_hire 39 = .ok (.aload_n 0, 1) := by decide +kernel
theorem dX5_hire_40 : decode cX5_hire 40 = .ok (.getfield 10, 3) := by decide +kernel
theorem dX5_hire_43 : decode cX5_hire 43 = .ok (.iload_n 1, 1) := by decide +kernel
theorem dX5_hire_44 : decode cX5_hire 44 = .ok (.iload_n 2, 1) := by decide +kernel
theorem dX5_hire_45 : decode cX5_hire 45 = .ok (.iload_n 3, 1) := by decide +kernel
theorem dX5_hire_46 : decode cX5_hire 46 = .ok (.iconst 0, 1) := by decide +kernel
theorem dX5_hire_47 : decode cX5_hire 47 = .ok (.invokevirtual 120, 3) := by decide +kernel
theorem dX5_hire_50 : decode cX5_hire 50 = .ok (.iconst 0, 1) := by decide +kernel
theorem dX5_hire_51 : decode cX5_hire 51 = .ok (.istore 6, 2) := by decide +kernel
theorem dX5_hire_53 : decode cX5_hire 53 = .ok (.aload_n 0, 1) := by decide +kernel
theorem dX5_hire_54 : decode cX5_hire 54 = .ok (.getfield 28, 3) := by decide +kernel
theorem dX5_hire_57 : decode cX5_hire 57 = .ok (.aload_n 0, 1) := by decide +kernel
theorem dX5_hire_58 : decode cX5_hire 58 = .ok (.getfield 10, 3) := by decide +kernel
theorem dX5_hire_61 : decode cX5_hire 61 = .ok (.invokevirtual 124, 3) := by decide +kernel
theorem dX5_hire_64 : decode cX5_hire 64 = .ok (.istore 7, 2) := by decide +kernel
theorem dX5_hire_66 : decode cX5_hire 66 = .ok (.aload_n 0, 1) := by decide +kernel
theorem dX5_hire_67 : decode cX5_hire 67 = .ok (.getfield 10, 3) := by decide +kernel
theorem dX5_hire_70 : decode cX5_hire 70 = .ok (.invokevirtual 202, 3) := by decide +kernel
theorem dX5_hire_73 : decode cX5_hire 73 = .ok (.istore 8, 2) := by decide +kernel
theorem dX5_hire_75 : decode cX5_hire 75 = .ok (.iconst 1, 1) := by decide +kernel
theorem dX5_hire_76 : decode cX5_hire 76 = .ok (.istore 9, 2) := by decide +kernel
theorem dX5_hire_78 : decode cX5_hire 78 = .ok (.iload 9, 2) := by decide +kernel
theorem dX5_hire_80 : decode cX5_hire 80 = .ok (.iload 8, 2) := by decide +kernel
theorem dX5_hire_82 : decode cX5_hire 82 = .ok (.if_icmp .gt 70, 3) := by decide +kernel
theorem dX5_hire_85 : decode cX5_hire 85 = .ok (.iload 9, 2) := by decide +kernel
theorem dX5_hire_87 : decode cX5_hire 87 = .ok (.invokestatic 205, 3) := by decide +kernel
theorem dX5_hire_90 : decode cX5_hire 90 = .ok (.istore 10, 2) := by decide +kernel
theorem dX5_hire_92 : decode cX5_hire 92 = .ok (.iload 10, 2) := by decide +kernel
theorem dX5_hire_94 : decode cX5_hire 94 = .ok (.iload 4, 2) := by decide +kernel
theorem dX5_hire_96 : decode cX5_hire 96 = .ok (.if_icmp .gt 50, 3) := by decide +kernel
theorem dX5_hire_99 : decode cX5_hire 99 = .ok (.aload_n 0, 1) := by decide +kernel
theorem dX5_hire_100 : decode cX5_hire 100 = .ok (.getfield 28, 3) := by decide +kernel
theorem dX5_hire_103 : decode cX5_hire 103 = .ok (.aload_n 0, 1) := by decide +kernel
theorem dX5_hire_104 : decode cX5_hire 104 = .ok (.getfield 10, 3) := by decide +kernel
theorem dX5_hire_107 : decode cX5_hire 107 = .ok (.iload 9, 2) := by decide +kernel
theorem dX5_hire_109 : decode cX5_hire 109 = .ok (.invokevirtual 210, 3) := by decide +kernel
theorem dX5_hire_112 : decode cX5_hire 112 = .ok (.istore 11, 2) := by decide +kernel
theorem dX5_hire_114 : decode cX5_hire 114 = .ok (.iload 11, 2) := by decide +kernel
theorem dX5_hire_116 : decode cX5_hire 116 = .ok (.iload 7, 2) := by decide +kernel
theorem dX5_hire_118 : decode cX5_hire 118 = .ok (.if_icmp .lt 20, 3) := by decide +kernel
theorem dX5_hire_121 : decode cX5_hire 121 = .ok (.iload 11, 2) := by decide +kernel
theorem dX5_hire_123 : decode cX5_hire 123 = .ok (.iload 7, 2) := by decide +kernel
theorem dX5_hire_125 : decode cX5_hire 125 = .ok (.if_icmp .ne 21, 3) := by decide +kernel
theorem dX5_hire_128 : decode cX5_hire 128 = .ok (.iload 10, 2) := by decide +kernel
theorem dX5_hire_130 : decode cX5_hire 130 = .ok (.iload 6, 2) := by decide +kernel
theorem dX5_hire_132 : decode cX5_hire 132 = .ok (.invokestatic 205, 3) := by decide +kernel
theorem dX5_hire_135 : decode cX5_hire 135 = .ok (.if_icmp .ge 11, 3) := by decide +kernel
theorem dX5_hire_138 : decode cX5_hire 138 = .ok (.iload 11, 2) := by decide +kernel
theorem dX5_hire_140 : decode cX5_hire 140 = .ok (.istore 7, 2) := by decide +kernel
theorem dX5_hire_142 : decode cX5_hire 142 = .ok (.iload 9, 2) := by decide +kernel
theorem dX5_hire_144 : decode cX5_hire 144 = .ok (.istore 6, 2) := by decide +kernel
theorem dX5_hire_146 : decode cX5_hire 146 = .ok (.iinc 9 1, 3) := by decide +kernel
theorem dX5_hire_149 : decode cX5_hire 149 = .ok (.goto (-71), 3) := by decide +kernel
theorem dX5_hire_152 : decode cX5_hire 152 = .ok (.iload 5, 2) := by decide +kernel
theorem dX5_hire_154 : decode cX5_hire 154 = .ok (.ifCond .ne 8, 3) := by decide +kernel
theorem dX5_hire_157 : decode cX5_hire 157 = .ok (.iload 6, 2) := by decide +kernel
theorem dX5_hire_159 : decode cX5_hire 159 = .ok (.goto 5, 3) := by decide +kernel
theorem dX5_hire_162 : decode cX5_hire 162 = .ok (.iload 7, 2) := by decide +kernel
theorem dX5_hire_164 : decode cX5_hire 164 = .ok (.ireturn, 1) := by decide +kernel
set_option maxRecDepth 20000 in
theorem ggX5_dark_X5_isRun : GoodIn wsX5_dark wsX5_isRun := goodIn_r _ [8, 9, 10, 7, 11] (by decide +kernel) (by decide +kernel)
set_option maxRecDepth 20000 in
theorem gX5_dark_X5_isRun : GoodIn wsX5_dark (va_wsS RX5 116 yX5_isRun wsX5_isRun) := goodIn_app (goodIn_of _ (by decide +kernel)) ggX5_dark_X5_isRun
set_option maxRecDepth 20000 in
theorem ggX5_dark_X5_within : GoodIn wsX5_dark wsX5_within := goodIn_r _ [11] (by decide +kernel) (by decide +kernel)
set_option maxRecDepth 20000 in
theorem gX5_dark_X5_within : GoodIn wsX5_dark (va_wsS RX5 63 yX5_within wsX5_within) := goodIn_app (goodIn_of _ (by decide +kernel)) ggX5_dark_X5_within
set_option maxRecDepth 20000 in
theorem ggX5_dark_X5_refusedBad : GoodIn wsX5_dark wsX5_refusedBad := goodIn_r _ [15, 16, 99, 100, 101, 102, 103, 104, 105, 106, 107, 108, 109, 110, 111] (by decide +kernel) (by decide +kernel)
set_option maxRecDepth 20000 in
theorem gX5_dark_X5_refusedBad : GoodIn wsX5_dark (wsV RX5 67 RX5 yX5_refusedBad wsX5_refusedBad) := goodIn_app (goodIn_of _ (by decide +kernel)) ggX5_dark_X5_refusedBad
set_option maxRecDepth 20000 in
theorem ggX5_dark_X4_tell : GoodIn wsX5_dark wsX4_tell := goodIn_r _ [21, 22, 23, 24, 25, 26, 27, 28, 29, 30, 126, 127, 128, 129, 130, 131, 132, 133, 134, 135, 136, 137, 138, 139, 112, 113, 114, 115, 116, 117, 118, 119, 120, 121, 122, 123, 124, 125] (by decide +kernel) (by decide +kernel)
set_option maxRecDepth 20000 in
theorem gX5_dark_X4_tell : GoodIn wsX5_dark (wsV RX5 120 RX4 yX4_tell wsX4_tell) := goodIn_app (goodIn_of _ (by decide +kernel)) ggX5_dark_X4_tell
set_option maxRecDepth 20000 in
theorem ggX5_dark_X4_go : GoodIn wsX5_dark wsX4_go := goodIn_r _ [34, 35, 36, 37, 22, 38, 27, 39, 40, 41, 23, 42, 43, 30, 25, 44, 45, 46, 47, 48, 49, 50, 51, 52, 53, 54, 55, 56, 57, 58, 59, 60, 61, 62, 63, 64, 65, 66, 67, 68, 69, 20, 70, 29, 71, 72, 73, 74, 75, 76, 77, 78, 79, 80, 81, 82, 24, 83, 84, 85, 86, 7, 87, 88, 89, 90, 91, 92, 93, 94, 95, 96, 97, 126, 127, 128, 129, 130, 131, 132, 133, 134, 135, 136, 137, 138, 139, 112, 113, 114, 115, 116, 117, 118, 119, 120, 121, 122, 123, 124, 125, 140] (by decide +kernel) (by decide +kernel)
set_option maxRecDepth 20000 in
theorem gX5_dark_X4_go : GoodIn wsX5_dark (wsV RX5 124 RX4 yX4_go wsX4_go) := goodIn_app (goodIn_of _ (by decide +kernel)) ggX5_dark_X4_go
set_option maxRecDepth 20000 in
theorem ggX5_dark_X2_get : GoodIn wsX5_dark wsX2_get := goodIn_r _ [54, 55, 140] (by decide +kernel) (by decide +kernel)
set_option maxRecDepth 20000 in
theorem gX5_dark_X2_get : GoodIn wsX5_dark (wsV RX5 153 RX2 yX2_get wsX2_get) := goodIn_app (goodIn_of _ (by decide +kernel)) ggX5_dark_X2_get
theorem dX5_dark_0 : decode cX5_dark 0 = .ok (.iload_n 1, 1) := by decide +kernel
theorem dX5_dark_1 : decode cX5_dark 1 = .ok (.iload_n 2, 1) := by decide +kernel
theorem dX5_dark_2 : decode cX5_dark 2 = .ok (.iload_n 3, 1) := by decide +kernel
theorem dX5_dark_3 : decode cX5_dark 3 = .ok (.iconst 0, 1) := by decide +kernel
theorem dX5_dark_4 : decode cX5_dark 4 = .ok (.invokestatic 116, 3) := by decide +kernel
theorem dX5_dark_7 : decode cX5_dark 7 = .ok (.ifCond .eq 15, 3) := by decide +kernel
theorem dX5_dark_10 : decode cX5_dark 10 = .ok (.iload 4, 2) := by decide +kernel
theorem dX5_dark_12 : decode cX5_dark 12 = .ok (.iconst 0, 1) := by decide +kernel
theorem dX5_dark_13 : decode cX5_dark 13 = .ok (.sipush 999, 3) := by decide +kernel
theorem dX5_dark_16 : decode cX5_dark 16 = .ok (.invokestatic 63, 3) := by decide +kernel
theorem dX5_dark_19 : decode cX5_dark 19 = .ok (.ifCond .ne 8, 3) := by decide +kernel
theorem dX5_dark_22 : decode cX5_dark 22 = .ok (.aload_n 0, 1) := by decide +kernel
theorem dX5_dark_23 : decode cX5_dark 23 = .ok (.invokevirtual 67, 3) := by decide +kernel
theorem dX5_dark_26 : decode cX5_dark 26 = .ok (.ireturn, 1) := by decide +kernel
theorem dX5_dark_27 : decode cX5_dark 27 = .ok (.aload_n 0, 1) := by decide +kernel
theorem dX5_dark_28 : decode cX5_dark 28 = .ok (.getfield 28, 3) := by decide +kernel
theorem dX5_dark_31 : decode cX5_dark 31 = .ok (.aload_n 0, 1) := by decide +kernel
theorem dX5_dark_32 : decode cX5_dark 32 = .ok (.getfield 10, 3) := by decide +kernel
theorem dX5_dark_35 : decode cX5_dark 35 = .ok (.iload_n 1, 1) := by decide +kernel
theorem dX5_dark_36 : decode cX5_dark 36 = .ok (.iload_n 2, 1) := by decide +kernel
theorem dX5_dark_37 : decode cX5_dark 37 = .ok (.iload_n 3, 1) := by decide +kernel
theorem dX5_dark_38 : decode cX5_dark 38 = .ok (.iconst 0, 1) := by decide +kernel
theorem dX5_dark_39 : decode cX5_dark 39 = .ok (.invokevirtual 120, 3) := by decide +kernel
theorem dX5_dark_42 : decode cX5_dark 42 = .ok (.aload_n 0, 1) := by decide +kernel
theorem dX5_dark_43 : decode cX5_dark 43 = .ok (.getfield 28, 3) := by decide +kernel
theorem dX5_dark_46 : decode cX5_dark 46 = .ok (.aload_n 0, 1) := by decide +kernel
theorem dX5_dark_47 : decode cX5_dark 47 = .ok (.getfield 10, 3) := by decide +kernel
theorem dX5_dark_50 : decode cX5_dark 50 = .ok (.invokevirtual 124, 3) := by decide +kernel
theorem dX5_dark_53 : decode cX5_dark 53 = .ok (.pop, 1) := by decide +kernel
theorem dX5_dark_54 : decode cX5_dark 54 = .ok (.iconst 0, 1) := by decide +kernel
theorem dX5_dark_55 : decode cX5_dark 55 = .ok (.istore 5, 2) := by decide +kernel
theorem dX5_dark_57 : decode cX5_dark 57 = .ok (.iconst 0, 1) := by decide +kernel
theorem dX5_dark_58 : decode cX5_dark 58 = .ok (.istore 6, 2) := by decide +kernel
theorem dX5_dark_60 : decode cX5_dark 60 = .ok (.iload 6, 2) := by decide +kernel
theorem dX5_dark_62 : decode cX5_dark 62 = .ok (.aload_n 0, 1) := by decide +kernel
theorem dX5_dark_63 : decode cX5_dark 63 = .ok (.getfield 10, 3) := by decide +kernel
theorem dX5_dark_66 : decode cX5_dark 66 = .ok (.getfield 71, 3) := by decide +kernel
theorem dX5_dark_69 : decode cX5_dark 69 = .ok (.if_icmp .ge 29, 3) := by decide +kernel
theorem dX5_dark_72 : decode cX5_dark 72 = .ok (.aload_n 0, 1) := by decide +kernel
theorem dX5_dark_73 : decode cX5_dark 73 = .ok (.getfield 28, 3) := by decide +kernel
theorem dX5_dark_76 : decode cX5_dark 76 = .ok (.getfield 179, 3) := by decide +kernel
theorem dX5_dark_79 : decode cX5_dark 79 = .ok (.iload 6, 2) := by decide +kernel
theorem dX5_dark_81 : decode cX5_dark 81 = .ok (.invokevirtual 153, 3) := by decide +kernel
theorem dX5_dark_84 : decode cX5_dark 84 = .ok (.iload 4, 2) := by decide +kernel
theorem dX5_dark_86 : decode cX5_dark 86 = .ok (.if_icmp .gt 6, 3) := by decide +kernel
theorem dX5_dark_89 : decode cX5_dark 89 = .ok (.iinc 5 1, 3) := by decide +kernel
theorem dX5_dark_92 : decode cX5_dark 92 = .ok (.iinc 6 1, 3) := by decide +kernel
theorem dX5_dark_95 : decode cX5_dark 95 = .ok (.goto (-35), 3) := by decide +kernel
theorem dX5_dark_98 : decode cX5_dark 98 = .ok (.iload 5, 2) := by decide +kernel
theorem dX5_dark_100 : decode cX5_dark 100 = .ok (.ireturn, 1) := by decide +kernel
set_option maxRecDepth 20000 in
theorem ggX5_waits_X5_isRun : GoodIn wsX5_waits wsX5_isRun := goodIn_r _ [6, 7, 8, 5, 9] (by decide +kernel) (by decide +kernel)
set_option maxRecDepth 20000 in
theorem gX5_waits_X5_isRun : GoodIn wsX5_waits (va_wsS RX5 116 yX5_isRun wsX5_isRun) := goodIn_app (goodIn_of _ (by decide +kernel)) ggX5_waits_X5_isRun
set_option maxRecDepth 20000 in
theorem ggX5_waits_X0_has : GoodIn wsX5_waits wsX0_has := goodIn_r _ [14, 15, 8, 5, 9, 126, 127, 128, 129, 130, 131, 132, 133, 134, 135, 136, 137, 138, 139] (by decide +kernel) (by decide +kernel)
set_option maxRecDepth 20000 in
theorem gX5_waits_X0_has : GoodIn wsX5_waits (wsV RX5 88 RX0 yX0_has wsX0_has) := goodIn_app (goodIn_of _ (by decide +kernel)) ggX5_waits_X0_has
set_option maxRecDepth 20000 in
theorem ggX5_waits_X5_within : GoodIn wsX5_waits wsX5_within := goodIn_r _ [9] (by decide +kernel) (by decide +kernel)
set_option maxRecDepth 20000 in
theorem gX5_waits_X5_within : GoodIn wsX5_waits (va_wsS RX5 63 yX5_within wsX5_within) := goodIn_app (goodIn_of _ (by decide +kernel)) ggX5_waits_X5_within
set_option maxRecDepth 20000 in
theorem ggX5_waits_X5_refusedBad : GoodIn wsX5_waits wsX5_refusedBad := goodIn_r _ [19, 20, 113, 114, 115, 116, 117, 118, 119, 120, 121, 122, 123, 124, 125] (by decide +kernel) (by decide +kernel)
set_option maxRecDepth 20000 in
theorem gX5_waits_X5_refusedBad : GoodIn wsX5_waits (wsV RX5 67 RX5 yX5_refusedBad wsX5_refusedBad) := goodIn_app (goodIn_of _ (by decide +kernel)) ggX5_waits_X5_refusedBad
set_option maxRecDepth 20000 in
theorem ggX5_waits_X4_tell : GoodIn wsX5_waits wsX4_tell := goodIn_r _ [25, 26, 27, 28, 29, 30, 31, 32, 33, 34, 140, 141, 142, 143, 144, 145, 146, 147, 148, 149, 150, 151, 152, 153, 126, 127, 128, 129, 130, 131, 132, 133, 134, 135, 136, 137, 138, 139] (by decide +kernel) (by decide +kernel)
set_option maxRecDepth 20000 in
theorem gX5_waits_X4_tell : GoodIn wsX5_waits (wsV RX5 120 RX4 yX4_tell wsX4_tell) := goodIn_app (goodIn_of _ (by decide +kernel)) ggX5_waits_X4_tell
set_option maxRecDepth 20000 in
theorem ggX5_waits_X4_go : GoodIn wsX5_waits wsX4_go := goodIn_r _ [38, 39, 40, 41, 26, 42, 31, 43, 44, 45, 27, 46, 47, 34, 29, 48, 49, 50, 13, 51, 15, 52, 53, 54, 55, 56, 57, 58, 59, 60, 61, 62, 63, 64, 65, 66, 67, 68, 69, 70, 71, 24, 72, 33, 73, 74, 75, 76, 77, 78, 79, 80, 81, 82, 83, 84, 28, 85, 86, 87, 88, 5, 89, 90, 91, 92, 93, 94, 95, 96, 97, 98, 99, 140, 141, 142, 143, 144, 145, 146, 147, 148, 149, 150, 151, 152, 153, 126, 127, 128, 129, 130, 131, 132, 133, 134, 135, 136, 137, 138, 139, 154] (by decide +kernel) (by decide +kernel)
set_option maxRecDepth 20000 in
theorem gX5_waits_X4_go : GoodIn wsX5_waits (wsV RX5 124 RX4 yX4_go wsX4_go) := goodIn_app (goodIn_of _ (by decide +kernel)) ggX5_waits_X4_go
set_option maxRecDepth 20000 in
theorem ggX5_waits_X0_locksFrom : GoodIn wsX5_waits wsX0_locksFrom := goodIn_r _ [103, 15, 67, 49, 50, 13, 51, 126, 127, 128, 129, 130, 131, 132, 133, 134, 135, 136, 137, 138, 139] (by decide +kernel) (by decide +kernel)
set_option maxRecDepth 20000 in
theorem gX5_waits_X0_locksFrom : GoodIn wsX5_waits (wsV RX5 214 RX0 yX0_locksFrom wsX0_locksFrom) := goodIn_app (goodIn_of _ (by decide +kernel)) ggX5_waits_X0_locksFrom
set_option maxRecDepth 20000 in
theorem ggX5_waits_X4_goWithRight : GoodIn wsX5_waits wsX4_goWithRight := goodIn_r _ [107, 33, 26, 108, 36, 37, 24, 38, 39, 40, 41, 42, 31, 43, 44, 45, 27, 46, 47, 34, 29, 48, 49, 50, 13, 51, 15, 52, 53, 54, 55, 56, 57, 58, 59, 60, 61, 62, 63, 64, 65, 66, 67, 68, 69, 70, 71, 72, 73, 74, 75, 76, 77, 78, 79, 80, 81, 82, 83, 84, 28, 85, 86, 87, 88, 5, 89, 90, 91, 92, 93, 94, 95, 96, 97, 98, 99, 140, 141, 142, 143, 144, 145, 146, 147, 148, 149, 150, 151, 152, 153, 126, 127, 128, 129, 130, 131, 132, 133, 134, 135, 136, 137, 138, 139, 154] (by decide +kernel) (by decide +kernel)
set_option maxRecDepth 20000 in
theorem gX5_waits_X4_goWithRight : GoodIn wsX5_waits (wsV RX5 210 RX4 yX4_goWithRight wsX4_goWithRight) := goodIn_app (goodIn_of _ (by decide +kernel)) ggX5_waits_X4_goWithRight
set_option maxRecDepth 20000 in
theorem ggX5_waits_J6_compare_7cf53 : GoodIn wsX5_waits wsJ6_compare_7cf53 := goodIn_r _ [112] (by decide +kernel) (by decide +kernel)
set_option maxRecDepth 20000 in
theorem gX5_waits_J6_compare_7cf53 : GoodIn wsX5_waits (va_wsS RX5 217 yJ6_compare_7cf53 wsJ6_compare_7cf53) := goodIn_app (goodIn_of _ (by decide +kernel)) ggX5_waits_J6_compare_7cf53
theorem dX5_waits_0 : decode cX5_waits 0 = .ok (.iload_n 1, 1) := by decide +kernel
theorem dX5_waits_1 : decode cX5_waits 1 = .ok (.iload_n 2, 1) := by decide +kernel
theorem dX5_waits_2 : decode cX5_waits 2 = .ok (.iload_n 3, 1) := by decide +kernel
theorem dX5_waits_3 : decode cX5_waits 3 = .ok (.iconst 0, 1) := by decide +kernel
theorem dX5_waits_4 : decode cX5_waits 4 = .ok (.invokestatic 116, 3) := by decide +kernel
theorem dX5_waits_7 : decode cX5_waits 7 = .ok (.ifCond .eq 26, 3) := by decide +kernel
theorem dX5_waits_10 : decode cX5_waits 10 = .ok (.aload_n 0, 1) := by decide +kernel
theorem dX5_waits_11 : decode cX5_waits 11 = .ok (.getfield 10, 3) := by decide +kernel
theorem dX5_waits_14 : decode cX5_waits 14 = .ok (.iload 4, 2) := by decide +kernel
theorem dX5_waits_16 : decode cX5_waits 16 = .ok (.invokevirtual 88, 3) := by decide +kernel
theorem dX5_waits_19 : decode cX5_waits 19 = .ok (.ifCond .eq 14, 3) := by decide +kernel
theorem dX5_waits_22 : decode cX5_waits 22 = .ok (.iload 5, 2) := by decide +kernel
theorem dX5_waits_24 : decode cX5_waits 24 = .ok (.iconst 0, 1) := by decide +kernel
theorem dX5_waits_25 : decode cX5_waits 25 = .ok (.bipush 60, 2) := by decide +kernel
theorem dX5_waits_27 : decode cX5_waits 27 = .ok (.invokestatic 63, 3) := by decide +kernel
theorem dX5_waits_30 : decode cX5_waits 30 = .ok (.ifCond .ne 8, 3) := by decide +kernel
theorem dX5_waits_33 : decode cX5_waits 33 = .ok (.aload_n 0, 1) := by decide +kernel
theorem dX5_waits_34 : decode cX5_waits 34 = .ok (.invokevirtual 67, 3) := by decide +kernel
theorem dX5_waits_37 : decode cX5_waits 37 = .ok (.ireturn, 1) := by decide +kernel
theorem dX5_waits_38 : decode cX5_waits 38 = .ok (.aload_n 0, 1) := by decide +kernel
theorem dX5_waits_39 : decode cX5_waits 39 = .ok (.getfield 28, 3) := by decide +kernel
theorem dX5_waits_42 : decode cX5_waits 42 = .ok (.aload_n 0, 1) := by decide +kernel
theorem dX5_waits_43 : decode cX5_waits 43 = .ok (.getfield 10, 3) := by decide +kernel
theorem dX5_waits_46 : decode cX5_waits 46 = .ok (.iload_n 1, 1) := by decide +kernel
theorem dX5_waits_47 : decode cX5_waits 47 = .ok (.iload_n 2, 1) := by decide +kernel
theorem dX5_waits_48 : decode cX5_waits 48 = .ok (.iload_n 3, 1) := by decide +kernel
theorem dX5_waits_49 : decode cX5_waits 49 = .ok (.iconst 0, 1) := by decide +kernel
theorem dX5_waits_50 : decode cX5_waits 50 = .ok (.invokevirtual 120, 3) := by decide +kernel
theorem dX5_waits_53 : decode cX5_waits 53 = .ok (.aload_n 0, 1) := by decide +kernel
theorem dX5_waits_54 : decode cX5_waits 54 = .ok (.getfield 28, 3) := by decide +kernel
theorem dX5_waits_57 : decode cX5_waits 57 = .ok (.aload_n 0, 1) := by decide +kernel
theorem dX5_waits_58 : decode cX5_waits 58 = .ok (.getfield 10, 3) := by decide +kernel
theorem dX5_waits_61 : decode cX5_waits 61 = .ok (.invokevirtual 124, 3) := by decide +kernel
theorem dX5_waits_64 : decode cX5_waits 64 = .ok (.istore 6, 2) := by decide +kernel
theorem dX5_waits_66 : decode cX5_waits 66 = .ok (.iload 5, 2) := by decide +kernel
theorem dX5_waits_68 : decode cX5_waits 68 = .ok (.aload_n 0, 1) := by decide +kernel
theorem dX5_waits_69 : decode cX5_waits 69 = .ok (.getfield 28, 3) := by decide +kernel
theorem dX5_waits_72 : decode cX5_waits 72 = .ok (.aload_n 0, 1) := by decide +kernel
theorem dX5_waits_73 : decode cX5_waits 73 = .ok (.getfield 10, 3) := by decide +kernel
theorem dX5_waits_76 : decode cX5_waits 76 = .ok (.aload_n 0, 1) := by decide +kernel
theorem dX5_waits_77 : decode cX5_waits 77 = .ok (.getfield 10, 3) := by decide +kernel
theorem dX5_waits_80 : decode cX5_waits 80 = .ok (.iload_n 1, 1) := by decide +kernel
theorem dX5_waits_81 : decode cX5_waits 81 = .ok (.iload 4, 2) := by decide +kernel
theorem dX5_waits_83 : decode cX5_waits 83 = .ok (.invokevirtual 214, 3) := by decide +kernel
theorem dX5_waits_86 : decode cX5_waits 86 = .ok (.invokevirtual 210, 3) := by decide +kernel
theorem dX5_waits_89 : decode cX5_waits 89 = .ok (.iadd, 1) := by decide +kernel
theorem dX5_waits_90 : decode cX5_waits 90 = .ok (.istore 7, 2) := by decide +kernel
theorem dX5_waits_92 : decode cX5_waits 92 = .ok (.iload 6, 2) := by decide +kernel
theorem dX5_waits_94 : decode cX5_waits 94 = .ok (.iload 7, 2) := by decide +kernel
theorem dX5_waits_96 : decode cX5_waits 96 = .ok (.invokestatic 217, 3) := by decide +kernel
theorem dX5_waits_99 : decode cX5_waits 99 = .ok (.ireturn, 1) := by decide +kernel
set_option maxRecDepth 20000 in
theorem ggX5_share_X5_isRun : GoodIn wsX5_share wsX5_isRun := goodIn_r _ [12, 13, 14, 11, 15] (by decide +kernel) (by decide +kernel)
set_option maxRecDepth 20000 in
theorem gX5_share_X5_isRun : GoodIn wsX5_share (va_wsS RX5 116 yX5_isRun wsX5_isRun) := goodIn_app (goodIn_of _ (by decide +kernel)) ggX5_share_X5_isRun
set_option maxRecDepth 20000 in
theorem ggX5_share_X5_within : GoodIn wsX5_share wsX5_within := goodIn_r _ [15] (by decide +kernel) (by decide +kernel)
set_option maxRecDepth 20000 in
theorem gX5_share_X5_within : GoodIn wsX5_share (va_wsS RX5 63 yX5_within wsX5_within) := goodIn_app (goodIn_of _ (by decide +kernel)) ggX5_share_X5_within
set_option maxRecDepth 20000 in
theorem ggX5_share_X5_refusedBadFar : GoodIn wsX5_share wsX5_refusedBadFar := goodIn_r _ [19, 20, 107, 108, 109, 110, 111, 112, 113, 114, 115, 116, 117, 118, 119] (by decide +kernel) (by decide +kernel)
set_option maxRecDepth 20000 in
theorem gX5_share_X5_refusedBadFar : GoodIn wsX5_share (wsV RX5 195 RX5 yX5_refusedBadFar wsX5_refusedBadFar) := goodIn_app (goodIn_of _ (by decide +kernel)) ggX5_share_X5_refusedBadFar
set_option maxRecDepth 20000 in
theorem ggX5_share_X4_tell : GoodIn wsX5_share wsX4_tell := goodIn_r _ [25, 26, 27, 28, 29, 30, 31, 32, 33, 34, 120, 121, 122, 123, 124, 125, 126, 127, 128, 129, 130, 131, 132, 133, 134, 135, 136, 137, 138, 139, 140, 141, 142, 143, 144, 145, 146, 147] (by decide +kernel) (by decide +kernel)
set_option maxRecDepth 20000 in
theorem gX5_share_X4_tell : GoodIn wsX5_share (wsV RX5 120 RX4 yX4_tell wsX4_tell) := goodIn_app (goodIn_of _ (by decide +kernel)) ggX5_share_X4_tell
set_option maxRecDepth 20000 in
theorem ggX5_share_X4_go : GoodIn wsX5_share wsX4_go := goodIn_r _ [38, 39, 40, 41, 26, 42, 31, 43, 44, 45, 27, 46, 47, 34, 29, 48, 49, 50, 51, 52, 53, 54, 55, 56, 57, 58, 59, 60, 61, 62, 63, 64, 65, 66, 6, 67, 68, 69, 70, 71, 72, 24, 73, 33, 74, 75, 76, 77, 78, 79, 80, 81, 82, 83, 84, 85, 28, 86, 5, 7, 87, 11, 88, 89, 90, 91, 92, 93, 94, 95, 96, 97, 98, 120, 121, 122, 123, 124, 125, 126, 127, 128, 129, 130, 131, 132, 133, 134, 135, 136, 137, 138, 139, 140, 141, 142, 143, 144, 145, 146, 147, 148] (by decide +kernel) (by decide +kernel)
set_option maxRecDepth 20000 in
theorem gX5_share_X4_go : GoodIn wsX5_share (wsV RX5 124 RX4 yX4_go wsX4_go) := goodIn_app (goodIn_of _ (by decide +kernel)) ggX5_share_X4_go
set_option maxRecDepth 20000 in
theorem ggX5_share_X4_standsBehind : GoodIn wsX5_share wsX4_standsBehind := goodIn_r _ [102, 26, 103, 104, 105, 51, 106, 53, 120, 121, 122, 123, 124, 125, 126, 127, 128, 129, 130, 131, 132, 133, 134, 135, 136, 137, 138, 139, 140, 141, 142, 143, 144, 145, 146, 147] (by decide +kernel) (by decide +kernel)
set_option maxRecDepth 20000 in
theorem gX5_share_X4_standsBehind : GoodIn wsX5_share (wsV RX5 127 RX4 yX4_standsBehind wsX4_standsBehind) := goodIn_app (goodIn_of _ (by decide +kernel)) ggX5_share_X4_standsBehind
theorem dX5_share_0 : decode cX5_share 0 = .ok (.iload_n 1, 1) := by decide +kernel
theorem dX5_share_1 : decode cX5_share 1 = .ok (.iload_n 2, 1) := by decide +kernel
theorem dX5_share_2 : decode cX5_share 2 = .ok (.iload_n 3, 1) := by decide +kernel
theorem dX5_share_3 : decode cX5_share 3 = .ok (.iconst 0, 1) := by decide +kernel
theorem dX5_share_4 : decode cX5_share 4 = .ok (.invokestatic 116, 3) := by decide +kernel
theorem dX5_share_7 : decode cX5_share 7 = .ok (.ifCond .eq 14, 3) := by decide +kernel
theorem dX5_share_10 : decode cX5_share 10 = .ok (.iload 4, 2) := by decide +kernel
theorem dX5_share_12 : decode cX5_share 12 = .ok (.iconst 0, 1) := by decide +kernel
theorem dX5_share_13 : decode cX5_share 13 = .ok (.bipush 60, 2) := by decide +kernel
theorem dX5_share_15 : decode cX5_share 15 = .ok (.invokestatic 63, 3) := by decide +kernel
theorem dX5_share_18 : decode cX5_share 18 = .ok (.ifCond .ne 8, 3) := by decide +kernel
theorem dX5_share_21 : decode cX5_share 21 = .ok (.aload_n 0, 1) := by decide +kernel
theorem dX5_share_22 : decode cX5_share 22 = .ok (.invokevirtual 195, 3) := by decide +kernel
theorem dX5_share_25 : decode cX5_share 25 = .ok (.ireturn, 1) := by decide +kernel
theorem dX5_share_26 : decode cX5_share 26 = .ok (.aload_n 0, 1) := by decide +kernel
theorem dX5_share_27 : decode cX5_share 27 = .ok (.getfield 28, 3) := by decide +kernel
theorem dX5_share_30 : decode cX5_share 30 = .ok (.aload_n 0, 1) := by decide +kernel
theorem dX5_share_31 : decode cX5_share 31 = .ok (.getfield 10, 3) := by decide +kernel
theorem dX5_share_34 : decode cX5_share 34 = .ok (.iload_n 1, 1) := by decide +kernel
theorem dX5_share_35 : decode cX5_share 35 = .ok (.iload_n 2, 1) := by decide +kernel
theorem dX5_share_36 : decode cX5_share 36 = .ok (.iload_n 3, 1) := by decide +kernel
theorem dX5_share_37 : decode cX5_share 37 = .ok (.iconst 0, 1) := by decide +kernel
theorem dX5_share_38 : decode cX5_share 38 = .ok (.invokevirtual 120, 3) := by decide +kernel
theorem dX5_share_41 : decode cX5_share 41 = .ok (.aload_n 0, 1) := by decide +kernel
theorem dX5_share_42 : decode cX5_share 42 = .ok (.getfield 28, 3) := by decide +kernel
theorem dX5_share_45 : decode cX5_share 45 = .ok (.aload_n 0, 1) := by decide +kernel
theorem dX5_share_46 : decode cX5_share 46 = .ok (.getfield 10, 3) := by decide +kernel
theorem dX5_share_49 : decode cX5_share 49 = .ok (.invokevirtual 124, 3) := by decide +kernel
theorem dX5_share_52 : decode cX5_share 52 = .ok (.istore 5, 2) := by decide +kernel
theorem dX5_share_54 : decode cX5_share 54 = .ok (.aload_n 0, 1) := by decide +kernel
theorem dX5_share_55 : decode cX5_share 55 = .ok (.getfield 28, 3) := by decide +kernel
theorem dX5_share_58 : decode cX5_share 58 = .ok (.aload_n 0, 1) := by decide +kernel
theorem dX5_share_59 : decode cX5_share 59 = .ok (.getfield 28, 3) := by decide +kernel
theorem dX5_share_62 : decode cX5_share 62 = .ok (.aload_n 0, 1) := by decide +kernel
theorem dX5_share_63 : decode cX5_share 63 = .ok (.getfield 10, 3) := by decide +kernel
theorem dX5_share_66 : decode cX5_share 66 = .ok (.invokevirtual 127, 3) := by decide +kernel
theorem dX5_share_69 : decode cX5_share 69 = .ok (.putfield 220, 3) := by decide +kernel
theorem dX5_share_72 : decode cX5_share 72 = .ok (.iload 5, 2) := by decide +kernel
theorem dX5_share_74 : decode cX5_share 74 = .ok (.iload 4, 2) := by decide +kernel
theorem dX5_share_76 : decode cX5_share 76 = .ok (.invokestatic 221, 3) := by decide +kernel
theorem dX5_share_79 : decode cX5_share 79 = .ok (.aload_n 0, 1) := by decide +kernel
theorem dX5_share_80 : decode cX5_share 80 = .ok (.getfield 28, 3) := by decide +kernel
theorem dX5_share_83 : decode cX5_share 83 = .ok (.aload_n 0, 1) := by decide +kernel
theorem dX5_share_84 : decode cX5_share 84 = .ok (.getfield 10, 3) := by decide +kernel
theorem dX5_share_87 : decode cX5_share 87 = .ok (.invokevirtual 124, 3) := by decide +kernel
theorem dX5_share_90 : decode cX5_share 90 = .ok (.iadd, 1) := by decide +kernel
theorem dX5_share_91 : decode cX5_share 91 = .ok (.istore 6, 2) := by decide +kernel
theorem dX5_share_93 : decode cX5_share 93 = .ok (.aload_n 0, 1) := by decide +kernel
theorem dX5_share_94 : decode cX5_share 94 = .ok (.getfield 28, 3) := by decide +kernel
theorem dX5_share_97 : decode cX5_share 97 = .ok (.aload_n 0, 1) := by decide +kernel
theorem dX5_share_98 : decode cX5_share 98 = .ok (.getfield 10, 3) := by decide +kernel
theorem dX5_share_101 : decode cX5_share 101 = .ok (.iload_n 1, 1) := by decide +kernel
theorem dX5_share_102 : decode cX5_share 102 = .ok (.iload_n 2, 1) := by decide +kernel
theorem dX5_share_103 : decode cX5_share 103 = .ok (.iload_n 3, 1) := by decide +kernel
theorem dX5_share_104 : decode cX5_share 104 = .ok (.iconst 0, 1) := by decide +kernel
theorem dX5_share_105 : decode cX5_share 105 = .ok (.invokevirtual 120, 3) := by decide +kernel
theorem dX5_share_108 : decode cX5_share 108 = .ok (.aload_n 0, 1) := by decide +kernel
theorem dX5_share_109 : decode cX5_share 109 = .ok (.getfield 28, 3) := by decide +kernel
theorem dX5_share_112 : decode cX5_share 112 = .ok (.iconst 3, 1) := by decide +kernel
theorem dX5_share_113 : decode cX5_share 113 = .ok (.putfield 226, 3) := by decide +kernel
theorem dX5_share_116 : decode cX5_share 116 = .ok (.iload 4, 2) := by decide +kernel
theorem dX5_share_118 : decode cX5_share 118 = .ok (.aload_n 0, 1) := by decide +kernel
theorem dX5_share_119 : decode cX5_share 119 = .ok (.getfield 28, 3) := by decide +kernel
theorem dX5_share_122 : decode cX5_share 122 = .ok (.aload_n 0, 1) := by decide +kernel
theorem dX5_share_123 : decode cX5_share 123 = .ok (.getfield 10, 3) := by decide +kernel
theorem dX5_share_126 : decode cX5_share 126 = .ok (.invokevirtual 124, 3) := by decide +kernel
theorem dX5_share_129 : decode cX5_share 129 = .ok (.iadd, 1) := by decide +kernel
theorem dX5_share_130 : decode cX5_share 130 = .ok (.istore 7, 2) := by decide +kernel
theorem dX5_share_132 : decode cX5_share 132 = .ok (.iload 6, 2) := by decide +kernel
theorem dX5_share_134 : decode cX5_share 134 = .ok (.iload 7, 2) := by decide +kernel
theorem dX5_share_136 : decode cX5_share 136 = .ok (.isub, 1) := by decide +kernel
theorem dX5_share_137 : decode cX5_share 137 = .ok (.ireturn, 1) := by decide +kernel
set_option maxRecDepth 20000 in
theorem ggX5_key_X5_within : GoodIn wsX5_key wsX5_within := goodIn_r _ [5] (by decide +kernel) (by decide +kernel)
set_option maxRecDepth 20000 in
theorem gX5_key_X5_within : GoodIn wsX5_key (va_wsS RX5 63 yX5_within wsX5_within) := goodIn_app (goodIn_of _ (by decide +kernel)) ggX5_key_X5_within
set_option maxRecDepth 20000 in
theorem ggX5_key_X0_has : GoodIn wsX5_key wsX0_has := goodIn_r _ [10, 11, 3, 4, 5, 52, 53, 54, 55, 56, 57, 58, 59, 60, 61, 62, 63, 64, 65] (by decide +kernel) (by decide +kernel)
set_option maxRecDepth 20000 in
theorem gX5_key_X0_has : GoodIn wsX5_key (wsV RX5 88 RX0 yX0_has wsX0_has) := goodIn_app (goodIn_of _ (by decide +kernel)) ggX5_key_X0_has
set_option maxRecDepth 20000 in
theorem ggX5_key_X5_refusedBad : GoodIn wsX5_key wsX5_refusedBad := goodIn_r _ [15, 16, 39, 40, 41, 42, 43, 44, 45, 46, 47, 48, 49, 50, 51] (by decide +kernel) (by decide +kernel)
set_option maxRecDepth 20000 in
theorem gX5_key_X5_refusedBad : GoodIn wsX5_key (wsV RX5 67 RX5 yX5_refusedBad wsX5_refusedBad) := goodIn_app (goodIn_of _ (by decide +kernel)) ggX5_key_X5_refusedBad
set_option maxRecDepth 20000 in
theorem ggX5_key_X0_roadBehind : GoodIn wsX5_key wsX0_roadBehind := goodIn_r _ [20, 21, 22, 23, 24, 25, 26, 27, 28, 9, 29, 11, 30, 31, 32, 33, 34, 35, 52, 53, 54, 55, 56, 57, 58, 59, 60, 61, 62, 63, 64, 65, 66] (by decide +kernel) (by decide +kernel)
set_option maxRecDepth 20000 in
theorem gX5_key_X0_roadBehind : GoodIn wsX5_key (wsV RX5 229 RX0 yX0_roadBehind wsX0_roadBehind) := goodIn_app (goodIn_of _ (by decide +kernel)) ggX5_key_X0_roadBehind
set_option maxRecDepth 20000 in
theorem ggX5_key_X5_halfCutUp : GoodIn wsX5_key wsX5_halfCutUp := goodIn_r _ [38] (by decide +kernel) (by decide +kernel)
set_option maxRecDepth 20000 in
theorem gX5_key_X5_halfCutUp : GoodIn wsX5_key (va_wsS RX5 232 yX5_halfCutUp wsX5_halfCutUp) := goodIn_app (goodIn_of _ (by decide +kernel)) ggX5_key_X5_halfCutUp
theorem dX5_key_0 : decode cX5_key 0 = .ok (.iload_n 1, 1) := by decide +kernel
theorem dX5_key_1 : decode cX5_key 1 = .ok (.iconst 0, 1) := by decide +kernel
theorem dX5_key_2 : decode cX5_key 2 = .ok (.iconst 1, 1) := by decide +kernel
theorem dX5_key_3 : decode cX5_key 3 = .ok (.invokestatic 63, 3) := by decide +kernel
theorem dX5_key_6 : decode cX5_key 6 = .ok (.ifCond .eq 30, 3) := by decide +kernel
theorem dX5_key_9 : decode cX5_key 9 = .ok (.aload_n 0, 1) := by decide +kernel
theorem dX5_key_10 : decode cX5_key 10 = .ok (.getfield 10, 3) := by decide +kernel
theorem dX5_key_13 : decode cX5_key 13 = .ok (.iload_n 2, 1) := by decide +kernel
theorem dX5_key_14 : decode cX5_key 14 = .ok (.invokevirtual 88, 3) := by decide +kernel
theorem dX5_key_17 : decode cX5_key 17 = .ok (.ifCond .eq 19, 3) := by decide +kernel
theorem dX5_key_20 : decode cX5_key 20 = .ok (.aload_n 0, 1) := by decide +kernel
theorem dX5_key_21 : decode cX5_key 21 = .ok (.getfield 10, 3) := by decide +kernel
theorem dX5_key_24 : decode cX5_key 24 = .ok (.iload_n 3, 1) := by decide +kernel
theorem dX5_key_25 : decode cX5_key 25 = .ok (.invokevirtual 88, 3) := by decide +kernel
theorem dX5_key_28 : decode cX5_key 28 = .ok (.ifCond .eq 8, 3) := by decide +kernel
theorem dX5_key_31 : decode cX5_key 31 = .ok (.iload_n 2, 1) := by decide +kernel
theorem dX5_key_32 : decode cX5_key 32 = .ok (.iload_n 3, 1) := by decide +kernel
theorem dX5_key_33 : decode cX5_key 33 = .ok (.if_icmp .le 8, 3) := by decide +kernel
theorem dX5_key_36 : decode cX5_key 36 = .ok (.aload_n 0, 1) := by decide +kernel
theorem dX5_key_37 : decode cX5_key 37 = .ok (.invokevirtual 67, 3) := by decide +kernel
theorem dX5_key_40 : decode cX5_key 40 = .ok (.ireturn, 1) := by decide +kernel
theorem dX5_key_41 : decode cX5_key 41 = .ok (.iconst 0, 1) := by decide +kernel
theorem dX5_key_42 : decode cX5_key 42 = .ok (.istore 4, 2) := by decide +kernel
theorem dX5_key_44 : decode cX5_key 44 = .ok (.iload_n 2, 1) := by decide +kernel
theorem dX5_key_45 : decode cX5_key 45 = .ok (.istore 5, 2) := by decide +kernel
theorem dX5_key_47 : decode cX5_key 47 = .ok (.iload 5, 2) := by decide +kernel
theorem dX5_key_49 : decode cX5_key 49 = .ok (.iload_n 3, 1) := by decide +kernel
theorem dX5_key_50 : decode cX5_key 50 = .ok (.if_icmp .ge 29, 3) := by decide +kernel
theorem dX5_key_53 : decode cX5_key 53 = .ok (.iload 4, 2) := by decide +kernel
theorem dX5_key_55 : decode cX5_key 55 = .ok (.iconst 2, 1) := by decide +kernel
theorem dX5_key_56 : decode cX5_key 56 = .ok (.aload_n 0, 1) := by decide +kernel
theorem dX5_key_57 : decode cX5_key 57 = .ok (.getfield 10, 3) := by decide +kernel
theorem dX5_key_60 : decode cX5_key 60 = .ok (.iload_n 1, 1) := by decide +kernel
theorem dX5_key_61 : decode cX5_key 61 = .ok (.iload 5, 2) := by decide +kernel
theorem dX5_key_63 : decode cX5_key 63 = .ok (.invokevirtual 229, 3) := by decide +kernel
theorem dX5_key_66 : decode cX5_key 66 = .ok (.invokestatic 232, 3) := by decide +kernel
theorem dX5_key_69 : decode cX5_key 69 = .ok (.imul, 1) := by decide +kernel
theorem dX5_key_70 : decode cX5_key 70 = .ok (.iadd, 1) := by decide +kernel
theorem dX5_key_71 : decode cX5_key 71 = .ok (.istore 4, 2) := by decide +kernel
theorem dX5_key_73 : decode cX5_key 73 = .ok (.iinc 5 1, 3) := by decide +kernel
theorem dX5_key_76 : decode cX5_key 76 = .ok (.goto (-29), 3) := by decide +kernel
theorem dX5_key_79 : decode cX5_key 79 = .ok (.iload 4, 2) := by decide +kernel
theorem dX5_key_81 : decode cX5_key 81 = .ok (.ireturn, 1) := by decide +kernel
set_option maxRecDepth 20000 in
theorem ggX5_reading_X0_has : GoodIn wsX5_reading wsX0_has := goodIn_r _ [7, 8, 9, 10, 11, 49, 50, 51, 52, 53, 54, 55, 56, 57, 58, 59, 60, 61, 62] (by decide +kernel) (by decide +kernel)
set_option maxRecDepth 20000 in
theorem gX5_reading_X0_has : GoodIn wsX5_reading (wsV RX5 88 RX0 yX0_has wsX0_has) := goodIn_app (goodIn_of _ (by decide +kernel)) ggX5_reading_X0_has
set_option maxRecDepth 20000 in
theorem ggX5_reading_X5_within : GoodIn wsX5_reading wsX5_within := goodIn_r _ [11] (by decide +kernel) (by decide +kernel)
set_option maxRecDepth 20000 in
theorem gX5_reading_X5_within : GoodIn wsX5_reading (va_wsS RX5 63 yX5_within wsX5_within) := goodIn_app (goodIn_of _ (by decide +kernel)) ggX5_reading_X5_within
set_option maxRecDepth 20000 in
theorem ggX5_reading_X5_refusedBad : GoodIn wsX5_reading wsX5_refusedBad := goodIn_r _ [16, 17, 36, 37, 38, 39, 40, 41, 42, 43, 44, 45, 46, 47, 48] (by decide +kernel) (by decide +kernel)
set_option maxRecDepth 20000 in
theorem gX5_reading_X5_refusedBad : GoodIn wsX5_reading (wsV RX5 67 RX5 yX5_refusedBad wsX5_refusedBad) := goodIn_app (goodIn_of _ (by decide +kernel)) ggX5_reading_X5_refusedBad
set_option maxRecDepth 20000 in
theorem ggX5_reading_X5_refusedFull : GoodIn wsX5_reading wsX5_refusedFull := goodIn_r _ [21, 22, 36, 37, 38, 39, 40, 41, 42, 43, 44, 45, 46, 47, 48] (by decide +kernel) (by decide +kernel)
set_option maxRecDepth 20000 in
theorem gX5_reading_X5_refusedFull : GoodIn wsX5_reading (wsV RX5 78 RX5 yX5_refusedFull wsX5_refusedFull) := goodIn_app (goodIn_of _ (by decide +kernel)) ggX5_reading_X5_refusedFull
set_option maxRecDepth 20000 in
theorem ggX5_reading_X0_addReading : GoodIn wsX5_reading wsX0_addReading := goodIn_r _ [26, 27, 28, 29, 30, 31, 32, 33, 34, 35, 49, 50, 51, 52, 53, 54, 55, 56, 57, 58, 59, 60, 61, 62, 63] (by decide +kernel) (by decide +kernel)
set_option maxRecDepth 20000 in
theorem gX5_reading_X0_addReading : GoodIn wsX5_reading (wsV RX5 238 RX0 yX0_addReading wsX0_addReading) := goodIn_app (goodIn_of _ (by decide +kernel)) ggX5_reading_X0_addReading
theorem dX5_reading_0 : decode cX5_reading 0 = .ok (.aload_n 0, 1) := by decide +kernel
theorem dX5_reading_1 : decode cX5_reading 1 = .ok (.getfield 10, 3) := by decide +kernel
theorem dX5_reading_4 : decode cX5_reading 4 = .ok (.iload_n 1, 1) := by decide +kernel
theorem dX5_reading_5 : decode cX5_reading 5 = .ok (.invokevirtual 88, 3) := by decide +kernel
theorem dX5_reading_8 : decode cX5_reading 8 = .ok (.ifCond .eq 14, 3) := by decide +kernel
theorem dX5_reading_11 : decode cX5_reading 11 = .ok (.iload_n 2, 1) := by decide +kernel
theorem dX5_reading_12 : decode cX5_reading 12 = .ok (.iconst 0, 1) := by decide +kernel
theorem dX5_reading_13 : decode cX5_reading 13 = .ok (.sipush 999, 3) := by decide +kernel
theorem dX5_reading_16 : decode cX5_reading 16 = .ok (.invokestatic 63, 3) := by decide +kernel
theorem dX5_reading_19 : decode cX5_reading 19 = .ok (.ifCond .ne 8, 3) := by decide +kernel
theorem dX5_reading_22 : decode cX5_reading 22 = .ok (.aload_n 0, 1) := by decide +kernel
theorem dX5_reading_23 : decode cX5_reading 23 = .ok (.invokevirtual 67, 3) := by decide +kernel
theorem dX5_reading_26 : decode cX5_reading 26 = .ok (.ireturn, 1) := by decide +kernel
theorem dX5_reading_27 : decode cX5_reading 27 = .ok (.aload_n 0, 1) := by decide +kernel
theorem dX5_reading_28 : decode cX5_reading 28 = .ok (.getfield 10, 3) := by decide +kernel
theorem dX5_reading_31 : decode cX5_reading 31 = .ok (.getfield 235, 3) := by decide +kernel
theorem dX5_reading_34 : decode cX5_reading 34 = .ok (.bipush 6, 2) := by decide +kernel
theorem dX5_reading_36 : decode cX5_reading 36 = .ok (.if_icmp .lt 8, 3) := by decide +kernel
theorem dX5_reading_39 : decode cX5_reading 39 = .ok (.aload_n 0, 1) := by decide +kernel
theorem dX5_reading_40 : decode cX5_reading 40 = .ok (.invokevirtual 78, 3) := by decide +kernel
theorem dX5_reading_43 : decode cX5_reading 43 = .ok (.ireturn, 1) := by decide +kernel
theorem dX5_reading_44 : decode cX5_reading 44 = .ok (.aload_n 0, 1) := by decide +kernel
theorem dX5_reading_45 : decode cX5_reading 45 = .ok (.getfield 10, 3) := by decide +kernel
theorem dX5_reading_48 : decode cX5_reading 48 = .ok (.iload_n 1, 1) := by decide +kernel
theorem dX5_reading_49 : decode cX5_reading 49 = .ok (.iload_n 2, 1) := by decide +kernel
theorem dX5_reading_50 : decode cX5_reading 50 = .ok (.invokevirtual 238, 3) := by decide +kernel
theorem dX5_reading_53 : decode cX5_reading 53 = .ok (.aload_n 0, 1) := by decide +kernel
theorem dX5_reading_54 : decode cX5_reading 54 = .ok (.getfield 10, 3) := by decide +kernel
theorem dX5_reading_57 : decode cX5_reading 57 = .ok (.getfield 235, 3) := by decide +kernel
theorem dX5_reading_60 : decode cX5_reading 60 = .ok (.iconst 1, 1) := by decide +kernel
theorem dX5_reading_61 : decode cX5_reading 61 = .ok (.isub, 1) := by decide +kernel
theorem dX5_reading_62 : decode cX5_reading 62 = .ok (.ireturn, 1) := by decide +kernel
theorem dX5_forget_0 : decode cX5_forget 0 = .ok (.aload_n 0, 1) := by decide +kernel
theorem dX5_forget_1 : decode cX5_forget 1 = .ok (.getfield 10, 3) := by decide +kernel
theorem dX5_forget_4 : decode cX5_forget 4 = .ok (.getfield 235, 3) := by decide +kernel
theorem dX5_forget_7 : decode cX5_forget 7 = .ok (.istore_n 1, 1) := by decide +kernel
theorem dX5_forget_8 : decode cX5_forget 8 = .ok (.aload_n 0, 1) := by decide +kernel
theorem dX5_forget_9 : decode cX5_forget 9 = .ok (.getfield 10, 3) := by decide +kernel
theorem dX5_forget_12 : decode cX5_forget 12 = .ok (.iconst 0, 1) := by decide +kernel
theorem dX5_forget_13 : decode cX5_forget 13 = .ok (.putfield 235, 3) := by decide +kernel
theorem dX5_forget_16 : decode cX5_forget 16 = .ok (.iload_n 1, 1) := by decide +kernel
theorem dX5_forget_17 : decode cX5_forget 17 = .ok (.ireturn, 1) := by decide +kernel
set_option maxRecDepth 20000 in
theorem ggX5_leads_X5_isLedRun : GoodIn wsX5_leads wsX5_isLedRun := goodIn_r _ [6, 7, 8, 5, 9, 10, 11, 12] (by decide +kernel) (by decide +kernel)
set_option maxRecDepth 20000 in
theorem gX5_leads_X5_isLedRun : GoodIn wsX5_leads (va_wsS RX5 188 yX5_isLedRun wsX5_isLedRun) := goodIn_app (goodIn_of _ (by decide +kernel)) ggX5_leads_X5_isLedRun
set_option maxRecDepth 20000 in
theorem ggX5_leads_X5_refusedBad : GoodIn wsX5_leads wsX5_refusedBad := goodIn_r _ [16, 17, 108, 109, 110, 111, 112, 113, 114, 115, 116, 117, 118, 119, 120] (by decide +kernel) (by decide +kernel)
set_option maxRecDepth 20000 in
theorem gX5_leads_X5_refusedBad : GoodIn wsX5_leads (wsV RX5 67 RX5 yX5_refusedBad wsX5_refusedBad) := goodIn_app (goodIn_of _ (by decide +kernel)) ggX5_leads_X5_refusedBad
set_option maxRecDepth 20000 in
theorem ggX5_leads_X4_tell : GoodIn wsX5_leads wsX4_tell := goodIn_r _ [22, 23, 24, 25, 26, 27, 28, 29, 30, 31, 121, 122, 123, 124, 125, 126, 127, 128, 129, 130, 131, 132, 133, 134, 135, 136, 137, 138, 139, 140, 141, 142, 143, 144, 145, 146, 147, 148] (by decide +kernel) (by decide +kernel)
set_option maxRecDepth 20000 in
theorem gX5_leads_X4_tell : GoodIn wsX5_leads (wsV RX5 120 RX4 yX4_tell wsX4_tell) := goodIn_app (goodIn_of _ (by decide +kernel)) ggX5_leads_X4_tell
set_option maxRecDepth 20000 in
theorem ggX5_leads_X4_go : GoodIn wsX5_leads wsX4_go := goodIn_r _ [35, 36, 37, 38, 23, 39, 28, 40, 41, 42, 24, 43, 44, 31, 26, 45, 46, 47, 48, 49, 50, 51, 52, 53, 54, 55, 56, 57, 58, 59, 60, 61, 62, 63, 64, 65, 66, 67, 68, 69, 70, 21, 71, 30, 72, 73, 74, 75, 76, 77, 78, 79, 80, 81, 82, 83, 25, 84, 85, 86, 87, 5, 88, 89, 90, 91, 92, 93, 94, 95, 96, 97, 98, 121, 122, 123, 124, 125, 126, 127, 128, 129, 130, 131, 132, 133, 134, 135, 136, 137, 138, 139, 140, 141, 142, 143, 144, 145, 146, 147, 148, 149] (by decide +kernel) (by decide +kernel)
set_option maxRecDepth 20000 in
theorem gX5_leads_X4_go : GoodIn wsX5_leads (wsV RX5 124 RX4 yX4_go wsX4_go) := goodIn_app (goodIn_of _ (by decide +kernel)) ggX5_leads_X4_go
set_option maxRecDepth 20000 in
theorem ggX5_leads_X5_readingsFit : GoodIn wsX5_leads wsX5_readingsFit := goodIn_r _ [102, 2, 103, 1, 104, 105, 106, 107, 52, 53, 54, 55, 56, 108, 109, 110, 111, 112, 113, 114, 115, 116, 117, 118, 119, 120, 135, 136, 137, 138, 139, 140, 141, 142, 143, 144, 145, 146, 147, 148, 121, 122, 123, 124, 125, 126, 127, 128, 129, 130, 131, 132, 133, 134, 149] (by decide +kernel) (by decide +kernel)
set_option maxRecDepth 20000 in
theorem gX5_leads_X5_readingsFit : GoodIn wsX5_leads (wsV RX5 242 RX5 yX5_readingsFit wsX5_readingsFit) := goodIn_app (goodIn_of _ (by decide +kernel)) ggX5_leads_X5_readingsFit
theorem dX5_leads_0 : decode cX5_leads 0 = .ok (.iload_n 1, 1) := by decide +kernel
theorem dX5_leads_1 : decode cX5_leads 1 = .ok (.iload_n 2, 1) := by decide +kernel
theorem dX5_leads_2 : decode cX5_leads 2 = .ok (.iload_n 3, 1) := by decide +kernel
theorem dX5_leads_3 : decode cX5_leads 3 = .ok (.invokestatic 188, 3) := by decide +kernel
theorem dX5_leads_6 : decode cX5_leads 6 = .ok (.ifCond .ne 8, 3) := by decide +kernel
theorem dX5_leads_9 : decode cX5_leads 9 = .ok (.aload_n 0, 1) := by decide +kernel
theorem dX5_leads_10 : decode cX5_leads 10 = .ok (.invokevirtual 67, 3) := by decide +kernel
theorem dX5_leads_13 : decode cX5_leads 13 = .ok (.ireturn, 1) := by decide +kernel
theorem dX5_leads_14 : decode cX5_leads 14 = .ok (.iconst 0, 1) := by decide +kernel
theorem dX5_leads_15 : decode cX5_leads 15 = .ok (.istore 4, 2) := by decide +kernel
theorem dX5_leads_17 : decode cX5_leads 17 = .ok (.iconst 1, 1) := by decide +kernel
theorem dX5_leads_18 : decode cX5_leads 18 = .ok (.istore 5, 2) := by decide +kernel
theorem dX5_leads_20 : decode cX5_leads 20 = .ok (.iload 5, 2) := by decide +kernel
theorem dX5_leads_22 : decode cX5_leads 22 = .ok (.bipush 9, 2) := by decide +kernel
theorem dX5_leads_24 : decode cX5_leads 24 = .ok (.if_icmp .gt 53, 3) := by decide +kernel
theorem dX5_leads_27 : decode cX5_leads 27 = .ok (.aload_n 0, 1) := by decide +kernel
theorem dX5_leads_28 : decode cX5_leads 28 = .ok (.getfield 28, 3) := by decide +kernel
theorem dX5_leads_31 : decode cX5_leads 31 = .ok (.aload_n 0, 1) := by decide +kernel
theorem dX5_leads_32 : decode cX5_leads 32 = .ok (.getfield 10, 3) := by decide +kernel
theorem dX5_leads_35 : decode cX5_leads 35 = .ok (.iload_n 1, 1) := by decide +kernel
theorem dX5_leads_36 : decode cX5_leads 36 = .ok (.iload_n 2, 1) := by decide +kernel
theorem dX5_leads_37 : decode cX5_leads 37 = .ok (.iload 5, 2) := by decide +kernel
theorem dX5_leads_39 : decode cX5_leads 39 = .ok (.iload_n 3, 1) := by decide +kernel
theorem dX5_leads_40 : decode cX5_leads 40 = .ok (.invokevirtual 120, 3) := by decide +kernel
theorem dX5_leads_43 : decode cX5_leads 43 = .ok (.aload_n 0, 1) := by decide +kernel
theorem dX5_leads_44 : decode cX5_leads 44 = .ok (.getfield 28, 3) := by decide +kernel
theorem dX5_leads_47 : decode cX5_leads 47 = .ok (.aload_n 0, 1) := by decide +kernel
theorem dX5_leads_48 : decode cX5_leads 48 = .ok (.getfield 10, 3) := by decide +kernel
theorem dX5_leads_51 : decode cX5_leads 51 = .ok (.invokevirtual 124, 3) := by decide +kernel
theorem dX5_leads_54 : decode cX5_leads 54 = .ok (.pop, 1) := by decide +kernel
theorem dX5_leads_55 : decode cX5_leads 55 = .ok (.aload_n 0, 1) := by decide +kernel
theorem dX5_leads_56 : decode cX5_leads 56 = .ok (.invokevirtual 242, 3) := by decide +kernel
theorem dX5_leads_59 : decode cX5_leads 59 = .ok (.ifCond .eq 12, 3) := by decide +kernel
theorem dX5_leads_62 : decode cX5_leads 62 = .ok (.iload 4, 2) := by decide +kernel
theorem dX5_leads_64 : decode cX5_leads 64 = .ok (.iconst 1, 1) := by decide +kernel
theorem dX5_leads_65 : decode cX5_leads 65 = .ok (.iload 5, 2) := by decide +kernel
theorem dX5_leads_67 : decode cX5_leads 67 = .ok (.ishl, 1) := by decide +kernel
theorem dX5_leads_68 : decode cX5_leads 68 = .ok (.ior, 1) := by decide +kernel
theorem dX5_leads_69 : decode cX5_leads 69 = .ok (.istore 4, 2) := by decide +kernel
theorem dX5_leads_71 : decode cX5_leads 71 = .ok (.iinc 5 1, 3) := by decide +kernel
theorem dX5_leads_74 : decode cX5_leads 74 = .ok (.goto (-54), 3) := by decide +kernel
theorem dX5_leads_77 : decode cX5_leads 77 = .ok (.iload 4, 2) := by decide +kernel
theorem dX5_leads_79 : decode cX5_leads 79 = .ok (.ireturn, 1) := by decide +kernel
set_option maxRecDepth 20000 in
theorem ggX5_drawn_X5_within : GoodIn wsX5_drawn wsX5_within := goodIn_r _ [14] (by decide +kernel) (by decide +kernel)
set_option maxRecDepth 20000 in
theorem gX5_drawn_X5_within : GoodIn wsX5_drawn (va_wsS RX5 63 yX5_within wsX5_within) := goodIn_app (goodIn_of _ (by decide +kernel)) ggX5_drawn_X5_within
set_option maxRecDepth 20000 in
theorem ggX5_drawn_X5_isRun : GoodIn wsX5_drawn wsX5_isRun := goodIn_r _ [17, 11, 12, 13, 14] (by decide +kernel) (by decide +kernel)
set_option maxRecDepth 20000 in
theorem gX5_drawn_X5_isRun : GoodIn wsX5_drawn (va_wsS RX5 116 yX5_isRun wsX5_isRun) := goodIn_app (goodIn_of _ (by decide +kernel)) ggX5_drawn_X5_isRun
set_option maxRecDepth 20000 in
theorem ggX5_drawn_X5_refusedBad : GoodIn wsX5_drawn wsX5_refusedBad := goodIn_r _ [21, 22, 118, 119, 120, 121, 122, 123, 124, 125, 126, 127, 128, 129, 130] (by decide +kernel) (by decide +kernel)
set_option maxRecDepth 20000 in
theorem gX5_drawn_X5_refusedBad : GoodIn wsX5_drawn (wsV RX5 67 RX5 yX5_refusedBad wsX5_refusedBad) := goodIn_app (goodIn_of _ (by decide +kernel)) ggX5_drawn_X5_refusedBad
set_option maxRecDepth 20000 in
theorem ggX5_drawn_X5_refusedNo : GoodIn wsX5_drawn wsX5_refusedNo := goodIn_r _ [26, 27, 118, 119, 120, 121, 122, 123, 124, 125, 126, 127, 128, 129, 130] (by decide +kernel) (by decide +kernel)
set_option maxRecDepth 20000 in
theorem gX5_drawn_X5_refusedNo : GoodIn wsX5_drawn (wsV RX5 143 RX5 yX5_refusedNo wsX5_refusedNo) := goodIn_app (goodIn_of _ (by decide +kernel)) ggX5_drawn_X5_refusedNo
set_option maxRecDepth 20000 in
theorem ggX5_drawn_X4_tell : GoodIn wsX5_drawn wsX4_tell := goodIn_r _ [32, 33, 34, 35, 36, 37, 38, 39, 40, 41, 145, 146, 147, 148, 149, 150, 151, 152, 153, 154, 155, 156, 157, 158, 131, 132, 133, 134, 135, 136, 137, 138, 139, 140, 141, 142, 143, 144] (by decide +kernel) (by decide +kernel)
set_option maxRecDepth 20000 in
theorem gX5_drawn_X4_tell : GoodIn wsX5_drawn (wsV RX5 120 RX4 yX4_tell wsX4_tell) := goodIn_app (goodIn_of _ (by decide +kernel)) ggX5_drawn_X4_tell
set_option maxRecDepth 20000 in
theorem ggX5_drawn_X4_go : GoodIn wsX5_drawn wsX4_go := goodIn_r _ [45, 46, 47, 48, 33, 49, 38, 50, 51, 52, 34, 53, 54, 41, 36, 55, 56, 57, 58, 59, 60, 61, 62, 63, 64, 65, 66, 67, 68, 69, 70, 71, 72, 73, 74, 75, 76, 77, 78, 79, 80, 31, 81, 40, 82, 83, 84, 85, 86, 87, 88, 89, 90, 91, 92, 93, 35, 94, 95, 96, 97, 13, 98, 99, 100, 101, 102, 103, 104, 105, 106, 107, 108, 145, 146, 147, 148, 149, 150, 151, 152, 153, 154, 155, 156, 157, 158, 131, 132, 133, 134, 135, 136, 137, 138, 139, 140, 141, 142, 143, 144, 159] (by decide +kernel) (by decide +kernel)
set_option maxRecDepth 20000 in
theorem gX5_drawn_X4_go : GoodIn wsX5_drawn (wsV RX5 124 RX4 yX4_go wsX4_go) := goodIn_app (goodIn_of _ (by decide +kernel)) ggX5_drawn_X4_go
set_option maxRecDepth 20000 in
theorem ggX5_drawn_X5_setFraction : GoodIn wsX5_drawn wsX5_setFraction := goodIn_r _ [112, 113, 114, 115, 116, 13, 117, 118, 119, 120, 121, 122, 123, 124, 125, 126, 127, 128, 129, 130] (by decide +kernel) (by decide +kernel)
set_option maxRecDepth 20000 in
theorem gX5_drawn_X5_setFraction : GoodIn wsX5_drawn (wsV RX5 257 RX5 yX5_setFraction wsX5_setFraction) := goodIn_app (goodIn_of _ (by decide +kernel)) ggX5_drawn_X5_setFraction
theorem dX5_drawn_0 : decode cX5_drawn 0 = .ok (.iload_n 1, 1) := by decide +kernel
theorem dX5_drawn_1 : decode cX5_drawn 1 = .ok (.iconst 0, 1) := by decide +kernel
theorem dX5_drawn_2 : decode cX5_drawn 2 = .ok (.ldc 246, 2) := by decide +kernel
theorem dX5_drawn_4 : decode cX5_drawn 4 = .ok (.invokestatic 63, 3) := by decide +kernel
theorem dX5_drawn_7 : decode cX5_drawn 7 = .ok (.ifCond .eq 24, 3) := by decide +kernel
theorem dX5_drawn_10 : decode cX5_drawn 10 = .ok (.iload_n 2, 1) := by decide +kernel
theorem dX5_drawn_11 : decode cX5_drawn 11 = .ok (.iconst 0, 1) := by decide +kernel
theorem dX5_drawn_12 : decode cX5_drawn 12 = .ok (.bipush 30, 2) := by decide +kernel
theorem dX5_drawn_14 : decode cX5_drawn 14 = .ok (.invokestatic 63, 3) := by decide +kernel
theorem dX5_drawn_17 : decode cX5_drawn 17 = .ok (.ifCond .eq 14, 3) := by decide +kernel
theorem dX5_drawn_20 : decode cX5_drawn 20 = .ok (.iconst 0, 1) := by decide +kernel
theorem dX5_drawn_21 : decode cX5_drawn 21 = .ok (.iload_n 3, 1) := by decide +kernel
theorem dX5_drawn_22 : decode cX5_drawn 22 = .ok (.iload 4, 2) := by decide +kernel
theorem dX5_drawn_24 : decode cX5_drawn 24 = .ok (.iconst 0, 1) := by decide +kernel
theorem dX5_drawn_25 : decode cX5_drawn 25 = .ok (.invokestatic 116, 3) := by decide +kernel
theorem dX5_drawn_28 : decode cX5_drawn 28 = .ok (.ifCond .ne 8, 3) := by decide +kernel
theorem dX5_drawn_31 : decode cX5_drawn 31 = .ok (.aload_n 0, 1) := by decide +kernel
theorem dX5_drawn_32 : decode cX5_drawn 32 = .ok (.invokevirtual 67, 3) := by decide +kernel
theorem dX5_drawn_35 : decode cX5_drawn 35 = .ok (.ireturn, 1) := by decide +kernel
theorem dX5_drawn_36 : decode cX5_drawn 36 = .ok (.iload_n 2, 1) := by decide +kernel
theorem dX5_drawn_37 : decode cX5_drawn 37 = .ok (.ifCond .ne 8, 3) := by decide +kernel
theorem dX5_drawn_40 : decode cX5_drawn 40 = .ok (.aload_n 0, 1) := by decide +kernel
theorem dX5_drawn_41 : decode cX5_drawn 41 = .ok (.invokevirtual 143, 3) := by decide +kernel
theorem dX5_drawn_44 : decode cX5_drawn 44 = .ok (.ireturn, 1) := by decide +kernel
theorem dX5_drawn_45 : decode cX5_drawn 45 = .ok (.aload_n 0, 1) := by decide +kernel
theorem dX5_drawn_46 : decode cX5_drawn 46 = .ok (.getfield 28, 3) := by decide +kernel
theorem dX5_drawn_49 : decode cX5_drawn 49 = .ok (.aload_n 0, 1) := by decide +kernel
theorem dX5_drawn_50 : decode cX5_drawn 50 = .ok (.getfield 10, 3) := by decide +kernel
theorem dX5_drawn_53 : decode cX5_drawn 53 = .ok (.iconst 0, 1) := by decide +kernel
theorem dX5_drawn_54 : decode cX5_drawn 54 = .ok (.iload_n 3, 1) := by decide +kernel
theorem dX5_drawn_55 : decode cX5_drawn 55 = .ok (.iload 4, 2) := by decide +kernel
theorem dX5_drawn_57 : decode cX5_drawn 57 = .ok (.iconst 0, 1) := by decide +kernel
theorem dX5_drawn_58 : decode cX5_drawn 58 = .ok (.invokevirtual 120, 3) := by decide +kernel
theorem dX5_drawn_61 : decode cX5_drawn 61 = .ok (.iload_n 1, 1) := by decide +kernel
theorem dX5_drawn_62 : decode cX5_drawn 62 = .ok (.i2l, 1) := by decide +kernel
theorem dX5_drawn_63 : decode cX5_drawn 63 = .ok (.lstore 5, 2) := by decide +kernel
theorem dX5_drawn_65 : decode cX5_drawn 65 = .ok (.lconst 0, 1) := by decide +kernel
theorem dX5_drawn_66 : decode cX5_drawn 66 = .ok (.lstore 7, 2) := by decide +kernel
theorem dX5_drawn_68 : decode cX5_drawn 68 = .ok (.iconst 0, 1) := by decide +kernel
theorem dX5_drawn_69 : decode cX5_drawn 69 = .ok (.istore 9, 2) := by decide +kernel
theorem dX5_drawn_71 : decode cX5_drawn 71 = .ok (.iload 9, 2) := by decide +kernel
theorem dX5_drawn_73 : decode cX5_drawn 73 = .ok (.iload_n 2, 1) := by decide +kernel
theorem dX5_drawn_74 : decode cX5_drawn 74 = .ok (.if_icmp .ge 94, 3) := by decide +kernel
theorem dX5_drawn_77 : decode cX5_drawn 77 = .ok (.iconst 0, 1) := by decide +kernel
theorem dX5_drawn_78 : decode cX5_drawn 78 = .ok (.istore 10, 2) := by decide +kernel
theorem dX5_drawn_80 : decode cX5_drawn 80 = .ok (.iconst 0, 1) := by decide +kernel
theorem dX5_drawn_81 : decode cX5_drawn 81 = .ok (.istore 11, 2) := by decide +kernel
theorem dX5_drawn_83 : decode cX5_drawn 83 = .ok (.iload 11, 2) := by decide +kernel
theorem dX5_drawn_85 : decode cX5_drawn 85 = .ok (.aload_n 0, 1) := by decide +kernel
theorem dX5_drawn_86 : decode cX5_drawn 86 = .ok (.getfield 10, 3) := by decide +kernel
theorem dX5_drawn_89 : decode cX5_drawn 89 = .ok (.getfield 71, 3) := by decide +kernel
theorem dX5_drawn_92 : decode cX5_drawn 92 = .ok (.if_icmp .ge 44, 3) := by decide +kernel
theorem dX5_drawn_95 : decode cX5_drawn 95 = .ok (.lload 5, 2) := by decide +kernel
theorem dX5_drawn_97 : decode cX5_drawn 97 = .ok (.ldc2_w 247, 3) := by decide +kernel
theorem dX5_drawn_100 : decode cX5_drawn 100 = .ok (.lmul, 1) := by decide +kernel
theorem dX5_drawn_101 : decode cX5_drawn 101 = .ok (.ldc2_w 249, 3) := by decide +kernel
theorem dX5_drawn_104 : decode cX5_drawn 104 = .ok (.ladd, 1) := by decide +kernel
theorem dX5_drawn_105 : decode cX5_drawn 105 = .ok (.ldc2_w 251, 3) := by decide +kernel
theorem dX5_drawn_108 : decode cX5_drawn 108 = .ok (.lrem, 1) := by decide +kernel
theorem dX5_drawn_109 : decode cX5_drawn 109 = .ok (.lstore 5, 2) := by decide +kernel
theorem dX5_drawn_111 : decode cX5_drawn 111 = .ok (.iload 10, 2) := by decide +kernel
theorem dX5_drawn_113 : decode cX5_drawn 113 = .ok (.lload 5, 2) := by decide +kernel
theorem dX5_drawn_115 : decode cX5_drawn 115 = .ok (.ldc2_w 253, 3) := by decide +kernel
theorem dX5_drawn_118 : decode cX5_drawn 118 = .ok (.ldiv, 1) := by decide +kernel
theorem dX5_drawn_119 : decode cX5_drawn 119 = .ok (.ldc2_w 255, 3) := by decide +kernel
theorem dX5_drawn_122 : decode cX5_drawn 122 = .ok (.lrem, 1) := by decide +kernel
theorem dX5_drawn_123 : decode cX5_drawn 123 = .ok (.l2i, 1) := by decide +kernel
theorem dX5_drawn_124 : decode cX5_drawn 124 = .ok (.iload 11, 2) := by decide +kernel
theorem dX5_drawn_126 : decode cX5_drawn 126 = .ok (.ishl, 1) := by decide +kernel
theorem dX5_drawn_127 : decode cX5_drawn 127 = .ok (.ior, 1) := by decide +kernel
theorem dX5_drawn_128 : decode cX5_drawn 128 = .ok (.istore 10, 2) := by decide +kernel
theorem dX5_drawn_130 : decode cX5_drawn 130 = .ok (.iinc 11 1, 3) := by decide +kernel
theorem dX5_drawn_133 : decode cX5_drawn 133 = .ok (.goto (-50), 3) := by decide +kernel
theorem dX5_drawn_136 : decode cX5_drawn 136 = .ok (.aload_n 0, 1) := by decide +kernel
theorem dX5_drawn_137 : decode cX5_drawn 137 = .ok (.getfield 28, 3) := by decide +kernel
theorem dX5_drawn_140 : decode cX5_drawn 140 = .ok (.iload 10, 2) := by decide +kernel
theorem dX5_drawn_142 : decode cX5_drawn 142 = .ok (.putfield 220, 3) := by decide +kernel
theorem dX5_drawn_145 : decode cX5_drawn 145 = .ok (.lload 7, 2) := by decide +kernel
theorem dX5_drawn_147 : decode cX5_drawn 147 = .ok (.aload_n 0, 1) := by decide +kernel
theorem dX5_drawn_148 : decode cX5_drawn 148 = .ok (.getfield 28, 3) := by decide +kernel
theorem dX5_drawn_151 : decode cX5_drawn 151 = .ok (.aload_n 0, 1) := by decide +kernel
theorem dX5_drawn_152 : decode cX5_drawn 152 = .ok (.getfield 10, 3) := by decide +kernel
theorem dX5_drawn_155 : decode cX5_drawn 155 = .ok (.invokevirtual 124, 3) := by decide +kernel
theorem dX5_drawn_158 : decode cX5_drawn 158 = .ok (.i2l, 1) := by decide +kernel
theorem dX5_drawn_159 : decode cX5_drawn 159 = .ok (.ladd, 1) := by decide +kernel
theorem dX5_drawn_160 : decode cX5_drawn 160 = .ok (.lstore 7, 2) := by decide +kernel
theorem dX5_drawn_162 : decode cX5_drawn 162 = .ok (.iinc 9 1, 3) := by decide +kernel
theorem dX5_drawn_165 : decode cX5_drawn 165 = .ok (.goto (-94), 3) := by decide +kernel
theorem dX5_drawn_168 : decode cX5_drawn 168 = .ok (.aload_n 0, 1) := by decide +kernel
theorem dX5_drawn_169 : decode cX5_drawn 169 = .ok (.lload 7, 2) := by decide +kernel
theorem dX5_drawn_171 : decode cX5_drawn 171 = .ok (.iload_n 2, 1) := by decide +kernel
theorem dX5_drawn_172 : decode cX5_drawn 172 = .ok (.i2l, 1) := by decide +kernel
theorem dX5_drawn_173 : decode cX5_drawn 173 = .ok (.invokevirtual 257, 3) := by decide +kernel
theorem dX5_drawn_176 : decode cX5_drawn 176 = .ok (.iconst 1, 1) := by decide +kernel
theorem dX5_drawn_177 : decode cX5_drawn 177 = .ok (.ireturn, 1) := by decide +kernel
set_option maxRecDepth 20000 in
theorem ggX5_part_X5_within : GoodIn wsX5_part wsX5_within := goodIn_r _ [6] (by decide +kernel) (by decide +kernel)
set_option maxRecDepth 20000 in
theorem gX5_part_X5_within : GoodIn wsX5_part (va_wsS RX5 63 yX5_within wsX5_within) := goodIn_app (goodIn_of _ (by decide +kernel)) ggX5_part_X5_within
set_option maxRecDepth 20000 in
theorem ggX5_part_X5_refusedBad : GoodIn wsX5_part wsX5_refusedBad := goodIn_r _ [10, 11, 12, 13, 14, 15, 16, 17, 18, 19, 20, 21, 22, 23, 24] (by decide +kernel) (by decide +kernel)
set_option maxRecDepth 20000 in
theorem gX5_part_X5_refusedBad : GoodIn wsX5_part (wsV RX5 67 RX5 yX5_refusedBad wsX5_refusedBad) := goodIn_app (goodIn_of _ (by decide +kernel)) ggX5_part_X5_refusedBad
theorem dX5_part_0 : decode cX5_part 0 = .ok (.iload_n 1, 1) := by decide +kernel
theorem dX5_part_1 : decode cX5_part 1 = .ok (.iconst 0, 1) := by decide +kernel
theorem dX5_part_2 : decode cX5_part 2 = .ok (.iconst 1, 1) := by decide +kernel
theorem dX5_part_3 : decode cX5_part 3 = .ok (.invokestatic 63, 3) := by decide +kernel
theorem dX5_part_6 : decode cX5_part 6 = .ok (.ifCond .ne 9, 3) := by decide +kernel
theorem dX5_part_9 : decode cX5_part 9 = .ok (.aload_n 0, 1) := by decide +kernel
theorem dX5_part_10 : decode cX5_part 10 = .ok (.invokevirtual 67, 3) := by decide +kernel
theorem dX5_part_13 : decode cX5_part 13 = .ok (.i2l, 1) := by decide +kernel
theorem dX5_part_14 : decode cX5_part 14 = .ok (.lreturn, 1) := by decide +kernel
theorem dX5_part_15 : decode cX5_part 15 = .ok (.iload_n 1, 1) := by decide +kernel
theorem dX5_part_16 : decode cX5_part 16 = .ok (.ifCond .ne 10, 3) := by decide +kernel
theorem dX5_part_19 : decode cX5_part 19 = .ok (.aload_n 0, 1) := by decide +kernel
theorem dX5_part_20 : decode cX5_part 20 = .ok (.getfield 46, 3) := by decide +kernel
theorem dX5_part_23 : decode cX5_part 23 = .ok (.goto 7, 3) := by decide +kernel
theorem dX5_part_26 : decode cX5_part 26 = .ok (.aload_n 0, 1) := by decide +kernel
theorem dX5_part_27 : decode cX5_part 27 = .ok (.getfield 50, 3) := by decide +kernel
theorem dX5_part_30 : decode cX5_part 30 = .ok (.lreturn, 1) := by decide +kernel
set_option maxRecDepth 20000 in
theorem ggX5_image_X5_within : GoodIn wsX5_image wsX5_within := goodIn_r _ [9] (by decide +kernel) (by decide +kernel)
set_option maxRecDepth 20000 in
theorem gX5_image_X5_within : GoodIn wsX5_image (va_wsS RX5 63 yX5_within wsX5_within) := goodIn_app (goodIn_of _ (by decide +kernel)) ggX5_image_X5_within
set_option maxRecDepth 20000 in
theorem ggX5_image_X5_refusedBad : GoodIn wsX5_image wsX5_refusedBad := goodIn_r _ [13, 14, 44, 45, 46, 47, 48, 49, 50, 51, 52, 53, 54, 55, 56] (by decide +kernel) (by decide +kernel)
set_option maxRecDepth 20000 in
theorem gX5_image_X5_refusedBad : GoodIn wsX5_image (wsV RX5 67 RX5 yX5_refusedBad wsX5_refusedBad) := goodIn_app (goodIn_of _ (by decide +kernel)) ggX5_image_X5_refusedBad
set_option maxRecDepth 20000 in
theorem ggX5_image_X0_copyFrom : GoodIn wsX5_image wsX0_copyFrom := goodIn_r _ [19, 20, 21, 22, 23, 24, 25, 26, 27, 28, 29, 30, 31, 32, 33, 34, 35, 36, 37, 38, 39, 40, 41, 42, 43, 57, 58, 59, 60, 61, 62, 63, 64, 65, 66, 67, 68, 69, 70, 71] (by decide +kernel) (by decide +kernel)
set_option maxRecDepth 20000 in
theorem gX5_image_X0_copyFrom : GoodIn wsX5_image (wsV RX5 112 RX0 yX0_copyFrom wsX0_copyFrom) := goodIn_app (goodIn_of _ (by decide +kernel)) ggX5_image_X0_copyFrom
theorem dX5_image_0 : decode cX5_image 0 = .ok (.iload_n 1, 1) := by decide +kernel
theorem dX5_image_1 : decode cX5_image 1 = .ok (.iconst 0, 1) := by decide +kernel
theorem dX5_image_2 : decode cX5_image 2 = .ok (.iconst 1, 1) := by decide +kernel
theorem dX5_image_3 : decode cX5_image 3 = .ok (.invokestatic 63, 3) := by decide +kernel
theorem dX5_image_6 : decode cX5_image 6 = .ok (.ifCond .ne 8, 3) := by decide +kernel
theorem dX5_image_9 : decode cX5_image 9 = .ok (.aload_n 0, 1) := by decide +kernel
theorem dX5_image_10 : decode cX5_image 10 = .ok (.invokevirtual 67, 3) := by decide +kernel
theorem dX5_image_13 : decode cX5_image 13 = .ok (.ireturn, 1) := by decide +kernel
theorem dX5_image_14 : decode cX5_image 14 = .ok (.iload_n 1, 1) := by decide +kernel
theorem dX5_image_15 : decode cX5_image 15 = .ok (.ifCond .ne 22, 3) := by decide +kernel
theorem dX5_image_18 : decode cX5_image 18 = .ok (.aload_n 0, 1) := by decide +kernel
theorem dX5_image_19 : decode cX5_image 19 = .ok (.getfield 16, 3) := by decide +kernel
theorem dX5_image_22 : decode cX5_image 22 = .ok (.aload_n 0, 1) := by decide +kernel
theorem dX5_image_23 : decode cX5_image 23 = .ok (.getfield 10, 3) := by decide +kernel
theorem dX5_image_26 : decode cX5_image 26 = .ok (.invokevirtual 112, 3) := by decide +kernel
theorem dX5_image_29 : decode cX5_image 29 = .ok (.aload_n 0, 1) := by decide +kernel
theorem dX5_image_30 : decode cX5_image 30 = .ok (.iconst 1, 1) := by decide +kernel
theorem dX5_image_31 : decode cX5_image 31 = .ok (.putfield 39, 3) := by decide +kernel
theorem dX5_image_34 : decode cX5_image 34 = .ok (.goto 19, 3) := by decide +kernel
theorem dX5_image_37 : decode cX5_image 37 = .ok (.aload_n 0, 1) := by decide +kernel
theorem dX5_image_38 : decode cX5_image 38 = .ok (.getfield 19, 3) := by decide +kernel
theorem dX5_image_41 : decode cX5_image 41 = .ok (.aload_n 0, 1) := by decide +kernel
theorem dX5_image_42 : decode cX5_image 42 = .ok (.getfield 10, 3) := by decide +kernel
theorem dX5_image_45 : decode cX5_image 45 = .ok (.invokevirtual 112, 3) := by decide +kernel
theorem dX5_image_48 : decode cX5_image 48 = .ok (.aload_n 0, 1) := by decide +kernel
theorem dX5_image_49 : decode cX5_image 49 = .ok (.iconst 1, 1) := by decide +kernel
theorem dX5_image_50 : decode cX5_image 50 = .ok (.putfield 43, 3) := by decide +kernel
theorem dX5_image_53 : decode cX5_image 53 = .ok (.iconst 1, 1) := by decide +kernel
theorem dX5_image_54 : decode cX5_image 54 = .ok (.ireturn, 1) := by decide +kernel
set_option maxRecDepth 20000 in
theorem ggX5_from_X5_within : GoodIn wsX5_from wsX5_within := goodIn_r _ [9] (by decide +kernel) (by decide +kernel)
set_option maxRecDepth 20000 in
theorem gX5_from_X5_within : GoodIn wsX5_from (va_wsS RX5 63 yX5_within wsX5_within) := goodIn_app (goodIn_of _ (by decide +kernel)) ggX5_from_X5_within
set_option maxRecDepth 20000 in
theorem ggX5_from_X5_refusedBad : GoodIn wsX5_from wsX5_refusedBad := goodIn_r _ [13, 14, 49, 50, 51, 52, 53, 54, 55, 56, 57, 58, 59, 60, 61] (by decide +kernel) (by decide +kernel)
set_option maxRecDepth 20000 in
theorem gX5_from_X5_refusedBad : GoodIn wsX5_from (wsV RX5 67 RX5 yX5_refusedBad wsX5_refusedBad) := goodIn_app (goodIn_of _ (by decide +kernel)) ggX5_from_X5_refusedBad
set_option maxRecDepth 20000 in
theorem ggX5_from_X5_refusedNo : GoodIn wsX5_from wsX5_refusedNo := goodIn_r _ [18, 19, 49, 50, 51, 52, 53, 54, 55, 56, 57, 58, 59, 60, 61] (by decide +kernel) (by decide +kernel)
set_option maxRecDepth 20000 in
theorem gX5_from_X5_refusedNo : GoodIn wsX5_from (wsV RX5 143 RX5 yX5_refusedNo wsX5_refusedNo) := goodIn_app (goodIn_of _ (by decide +kernel)) ggX5_from_X5_refusedNo
set_option maxRecDepth 20000 in
theorem ggX5_from_X0_copyFrom : GoodIn wsX5_from wsX0_copyFrom := goodIn_r _ [24, 25, 26, 27, 28, 29, 30, 31, 32, 33, 34, 35, 36, 37, 38, 39, 40, 41, 42, 43, 44, 45, 46, 47, 48, 62, 63, 64, 65, 66, 67, 68, 69, 70, 71, 72, 73, 74, 75, 76] (by decide +kernel) (by decide +kernel)
set_option maxRecDepth 20000 in
theorem gX5_from_X0_copyFrom : GoodIn wsX5_from (wsV RX5 112 RX0 yX0_copyFrom wsX0_copyFrom) := goodIn_app (goodIn_of _ (by decide +kernel)) ggX5_from_X0_copyFrom
theorem dX5_from_0 : decode cX5_from 0 = .ok (.iload_n 1, 1) := by decide +kernel
theorem dX5_from_1 : decode cX5_from 1 = .ok (.iconst 0, 1) := by decide +kernel
theorem dX5_from_2 : decode cX5_from 2 = .ok (.iconst 1, 1) := by decide +kernel
theorem dX5_from_3 : decode cX5_from 3 = .ok (.invokestatic 63, 3) := by decide +kernel
theorem dX5_from_6 : decode cX5_from 6 = .ok (.ifCond .ne 8, 3) := by decide +kernel
theorem dX5_from_9 : decode cX5_from 9 = .ok (.aload_n 0, 1) := by decide +kernel
theorem dX5_from_10 : decode cX5_from 10 = .ok (.invokevirtual 67, 3) := by decide +kernel
theorem dX5_from_13 : decode cX5_from 13 = .ok (.ireturn, 1) := by decide +kernel
theorem dX5_from_14 : decode cX5_from 14 = .ok (.iload_n 1, 1) := by decide +kernel
theorem dX5_from_15 : decode cX5_from 15 = .ok (.ifCond .ne 13, 3) := by decide +kernel
theorem dX5_from_18 : decode cX5_from 18 = .ok (.aload_n 0, 1) := by decide +kernel
theorem dX5_from_19 : decode cX5_from 19 = .ok (.getfield 39, 3) := by decide +kernel
theorem dX5_from_22 : decode cX5_from 22 = .ok (.ifCond .eq 13, 3) := by decide +kernel
theorem dX5_from_25 : decode cX5_from 25 = .ok (.goto 15, 3) := by decide +kernel
theorem dX5_from_28 : decode cX5_from 28 = .ok (.aload_n 0, 1) := by decide +kernel
theorem dX5_from_29 : decode cX5_from 29 = .ok (.getfield 43, 3) := by decide +kernel
theorem dX5_from_32 : decode cX5_from 32 = .ok (.ifCond .ne 8, 3) := by decide +kernel
theorem dX5_from_35 : decode cX5_from 35 = .ok (.aload_n 0, 1) := by decide +kernel
theorem dX5_from_36 : decode cX5_from 36 = .ok (.invokevirtual 143, 3) := by decide +kernel
theorem dX5_from_39 : decode cX5_from 39 = .ok (.ireturn, 1) := by decide +kernel
theorem dX5_from_40 : decode cX5_from 40 = .ok (.aload_n 0, 1) := by decide +kernel
theorem dX5_from_41 : decode cX5_from 41 = .ok (.getfield 10, 3) := by decide +kernel
theorem dX5_from_44 : decode cX5_from 44 = .ok (.iload_n 1, 1) := by decide +kernel
theorem dX5_from_45 : decode cX5_from 45 = .ok (.ifCond .ne 10, 3) := by decide +kernel
theorem dX5_from_48 : decode cX5_from 48 = .ok (.aload_n 0, 1) := by decide +kernel
theorem dX5_from_49 : decode cX5_from 49 = .ok (.getfield 16, 3) := by decide +kernel
theorem dX5_from_52 : decode cX5_from 52 = .ok (.goto 7, 3) := by decide +kernel
theorem dX5_from_55 : decode cX5_from 55 = .ok (.aload_n 0, 1) := by decide +kernel
theorem dX5_from_56 : decode cX5_from 56 = .ok (.getfield 19, 3) := by decide +kernel
theorem dX5_from_59 : decode cX5_from 59 = .ok (.invokevirtual 112, 3) := by decide +kernel
theorem dX5_from_62 : decode cX5_from 62 = .ok (.iconst 1, 1) := by decide +kernel
theorem dX5_from_63 : decode cX5_from 63 = .ok (.ireturn, 1) := by decide +kernel
theorem dX5_status_0 : decode cX5_status 0 = .ok (.iload_n 1, 1) := by decide +kernel
theorem dX5_status_1 : decode cX5_status 1 = .ok (.tableswitch 42 0 2 #[27, 32, 37], 27) := by decide +kernel
theorem dX5_status_28 : decode cX5_status 28 = .ok (.aload_n 0, 1) := by decide +kernel
theorem dX5_status_29 : decode cX5_status 29 = .ok (.getfield 53, 3) := by decide +kernel
theorem dX5_status_32 : decode cX5_status 32 = .ok (.ireturn, 1) := by decide +kernel
theorem dX5_status_33 : decode cX5_status 33 = .ok (.aload_n 0, 1) := by decide +kernel
theorem dX5_status_34 : decode cX5_status 34 = .ok (.getfield 57, 3) := by decide +kernel
theorem dX5_status_37 : decode cX5_status 37 = .ok (.ireturn, 1) := by decide +kernel
theorem dX5_status_38 : decode cX5_status 38 = .ok (.aload_n 0, 1) := by decide +kernel
theorem dX5_status_39 : decode cX5_status 39 = .ok (.getfield 60, 3) := by decide +kernel
theorem dX5_status_42 : decode cX5_status 42 = .ok (.ireturn, 1) := by decide +kernel
theorem dX5_status_43 : decode cX5_status 43 = .ok (.aload_n 0, 1) := by decide +kernel
theorem dX5_status_44 : decode cX5_status 44 = .ok (.dup, 1) := by decide +kernel
theorem dX5_status_45 : decode cX5_status 45 = .ok (.getfield 53, 3) := by decide +kernel
theorem dX5_status_48 : decode cX5_status 48 = .ok (.iconst 1, 1) := by decide +kernel
theorem dX5_status_49 : decode cX5_status 49 = .ok (.iadd, 1) := by decide +kernel
theorem dX5_status_50 : decode cX5_status 50 = .ok (.putfield 53, 3) := by decide +kernel
theorem dX5_status_53 : decode cX5_status 53 = .ok (.iconst (-1), 1) := by decide +kernel
theorem dX5_status_54 : decode cX5_status 54 = .ok (.ireturn, 1) := by decide +kernel
set_option maxRecDepth 20000 in
theorem ggX5_count_X5_within : GoodIn wsX5_count wsX5_within := goodIn_r _ [4] (by decide +kernel) (by decide +kernel)
set_option maxRecDepth 20000 in
theorem gX5_count_X5_within : GoodIn wsX5_count (va_wsS RX5 63 yX5_within wsX5_within) := goodIn_app (goodIn_of _ (by decide +kernel)) ggX5_count_X5_within
set_option maxRecDepth 20000 in
theorem ggX5_count_X5_refusedBad : GoodIn wsX5_count wsX5_refusedBad := goodIn_r _ [8, 9, 23, 24, 25, 26, 27, 28, 29, 30, 31, 32, 33, 34, 35] (by decide +kernel) (by decide +kernel)
set_option maxRecDepth 20000 in
theorem gX5_count_X5_refusedBad : GoodIn wsX5_count (wsV RX5 67 RX5 yX5_refusedBad wsX5_refusedBad) := goodIn_app (goodIn_of _ (by decide +kernel)) ggX5_count_X5_refusedBad
set_option maxRecDepth 20000 in
theorem ggX5_count_X5_howMany : GoodIn wsX5_count wsX5_howMany := goodIn_r _ [13, 14, 15, 16, 17, 18, 19, 20, 21, 22, 23, 24, 25, 26, 27, 28, 29, 30, 31, 32, 33, 34, 35, 36, 37, 38, 39, 40, 41, 42, 43, 44, 45, 46, 47, 48, 49, 50, 51, 52, 53, 54] (by decide +kernel) (by decide +kernel)
set_option maxRecDepth 20000 in
theorem gX5_count_X5_howMany : GoodIn wsX5_count (wsV RX5 261 RX5 yX5_howMany wsX5_howMany) := goodIn_app (goodIn_of _ (by decide +kernel)) ggX5_count_X5_howMany
theorem dX5_count_0 : decode cX5_count 0 = .ok (.iload_n 1, 1) := by decide +kernel
theorem dX5_count_1 : decode cX5_count 1 = .ok (.iconst 0, 1) := by decide +kernel
theorem dX5_count_2 : decode cX5_count 2 = .ok (.bipush 6, 2) := by decide +kernel
theorem dX5_count_4 : decode cX5_count 4 = .ok (.invokestatic 63, 3) := by decide +kernel
theorem dX5_count_7 : decode cX5_count 7 = .ok (.ifCond .ne 8, 3) := by decide +kernel
theorem dX5_count_10 : decode cX5_count 10 = .ok (.aload_n 0, 1) := by decide +kernel
theorem dX5_count_11 : decode cX5_count 11 = .ok (.invokevirtual 67, 3) := by decide +kernel
theorem dX5_count_14 : decode cX5_count 14 = .ok (.ireturn, 1) := by decide +kernel
theorem dX5_count_15 : decode cX5_count 15 = .ok (.aload_n 0, 1) := by decide +kernel
theorem dX5_count_16 : decode cX5_count 16 = .ok (.iload_n 1, 1) := by decide +kernel
theorem dX5_count_17 : decode cX5_count 17 = .ok (.invokevirtual 261, 3) := by decide +kernel
theorem dX5_count_20 : decode cX5_count 20 = .ok (.ireturn, 1) := by decide +kernel
set_option maxRecDepth 20000 in
theorem ggX5_digest_X5_howMany : GoodIn wsX5_digest wsX5_howMany := goodIn_r _ [16, 3, 4, 17, 18, 19, 7, 20, 21, 22, 35, 36, 37, 38, 39, 40, 41, 42, 43, 44, 45, 46, 47, 48, 49, 50, 51, 52, 53, 54, 55, 56, 57, 58, 59, 60, 61, 62, 63, 64, 65, 66] (by decide +kernel) (by decide +kernel)
set_option maxRecDepth 20000 in
theorem gX5_digest_X5_howMany : GoodIn wsX5_digest (wsV RX5 261 RX5 yX5_howMany wsX5_howMany) := goodIn_app (goodIn_of _ (by decide +kernel)) ggX5_digest_X5_howMany
set_option maxRecDepth 20000 in
theorem ggX5_digest_X2_get : GoodIn wsX5_digest wsX2_get := goodIn_r _ [27, 28, 67] (by decide +kernel) (by decide +kernel)
set_option maxRecDepth 20000 in
theorem gX5_digest_X2_get : GoodIn wsX5_digest (wsV RX5 153 RX2 yX2_get wsX2_get) := goodIn_app (goodIn_of _ (by decide +kernel)) ggX5_digest_X2_get
set_option maxRecDepth 20000 in
theorem ggX5_digest_X0_standsOf : GoodIn wsX5_digest wsX0_standsOf := goodIn_r _ [33, 34, 48, 49, 50, 51, 52, 53, 54, 55, 56, 57, 58, 59, 60, 61] (by decide +kernel) (by decide +kernel)
set_option maxRecDepth 20000 in
theorem gX5_digest_X0_standsOf : GoodIn wsX5_digest (wsV RX5 98 RX0 yX0_standsOf wsX0_standsOf) := goodIn_app (goodIn_of _ (by decide +kernel)) ggX5_digest_X0_standsOf
theorem dX5_digest_0 : decode cX5_digest 0 = .ok (.ldc2_w 264, 3) := by decide +kernel
theorem dX5_digest_3 : decode cX5_digest 3 = .ok (.lstore_n 1, 1) := by decide +kernel
theorem dX5_digest_4 : decode cX5_digest 4 = .ok (.iconst 0, 1) := by decide +kernel
theorem dX5_digest_5 : decode cX5_digest 5 = .ok (.istore_n 3, 1) := by decide +kernel
theorem dX5_digest_6 : decode cX5_digest 6 = .ok (.iload_n 3, 1) := by decide +kernel
theorem dX5_digest_7 : decode cX5_digest 7 = .ok (.bipush 6, 2) := by decide +kernel
theorem dX5_digest_9 : decode cX5_digest 9 = .ok (.if_icmp .gt 22, 3) := by decide +kernel
theorem dX5_digest_12 : decode cX5_digest 12 = .ok (.ldc2_w 266, 3) := by decide +kernel
theorem dX5_digest_15 : decode cX5_digest 15 = .ok (.lload_n 1, 1) := by decide +kernel
theorem dX5_digest_16 : decode cX5_digest 16 = .ok (.lmul, 1) := by decide +kernel
theorem dX5_digest_17 : decode cX5_digest 17 = .ok (.aload_n 0, 1) := by decide +kernel
theorem dX5_digest_18 : decode cX5_digest 18 = .ok (.iload_n 3, 1) := by decide +kernel
theorem dX5_digest_19 : decode cX5_digest 19 = .ok (.invokevirtual 261, 3) := by decide +kernel
theorem dX5_digest_22 : decode cX5_digest 22 = .ok (.i2l, 1) := by decide +kernel
theorem dX5_digest_23 : decode cX5_digest 23 = .ok (.ladd, 1) := by decide +kernel
theorem dX5_digest_24 : decode cX5_digest 24 = .ok (.lstore_n 1, 1) := by decide +kernel
theorem dX5_digest_25 : decode cX5_digest 25 = .ok (.iinc 3 1, 3) := by decide +kernel
theorem dX5_digest_28 : decode cX5_digest 28 = .ok (.goto (-22), 3) := by decide +kernel
theorem dX5_digest_31 : decode cX5_digest 31 = .ok (.iconst 0, 1) := by decide +kernel
theorem dX5_digest_32 : decode cX5_digest 32 = .ok (.istore_n 3, 1) := by decide +kernel
theorem dX5_digest_33 : decode cX5_digest 33 = .ok (.iload_n 3, 1) := by decide +kernel
theorem dX5_digest_34 : decode cX5_digest 34 = .ok (.aload_n 0, 1) := by decide +kernel
theorem dX5_digest_35 : decode cX5_digest 35 = .ok (.getfield 10, 3) := by decide +kernel
theorem dX5_digest_38 : decode cX5_digest 38 = .ok (.getfield 71, 3) := by decide +kernel
theorem dX5_digest_41 : decode cX5_digest 41 = .ok (.if_icmp .ge 63, 3) := by decide +kernel
theorem dX5_digest_44 : decode cX5_digest 44 = .ok (.ldc2_w 266, 3) := by decide +kernel
theorem dX5_digest_47 : decode cX5_digest 47 = .ok (.lload_n 1, 1) := by decide +kernel
theorem dX5_digest_48 : decode cX5_digest 48 = .ok (.lmul, 1) := by decide +kernel
theorem dX5_digest_49 : decode cX5_digest 49 = .ok (.aload_n 0, 1) := by decide +kernel
theorem dX5_digest_50 : decode cX5_digest 50 = .ok (.getfield 10, 3) := by decide +kernel
theorem dX5_digest_53 : decode cX5_digest 53 = .ok (.getfield 149, 3) := by decide +kernel
theorem dX5_digest_56 : decode cX5_digest 56 = .ok (.iload_n 3, 1) := by decide +kernel
theorem dX5_digest_57 : decode cX5_digest 57 = .ok (.invokevirtual 153, 3) := by decide +kernel
theorem dX5_digest_60 : decode cX5_digest 60 = .ok (.i2l, 1) := by decide +kernel
theorem dX5_digest_61 : decode cX5_digest 61 = .ok (.ladd, 1) := by decide +kernel
theorem dX5_digest_62 : decode cX5_digest 62 = .ok (.lstore_n 1, 1) := by decide +kernel
theorem dX5_digest_63 : decode cX5_digest 63 = .ok (.ldc2_w 266, 3) := by decide +kernel
theorem dX5_digest_66 : decode cX5_digest 66 = .ok (.lload_n 1, 1) := by decide +kernel
theorem dX5_digest_67 : decode cX5_digest 67 = .ok (.lmul, 1) := by decide +kernel
theorem dX5_digest_68 : decode cX5_digest 68 = .ok (.aload_n 0, 1) := by decide +kernel
theorem dX5_digest_69 : decode cX5_digest 69 = .ok (.getfield 10, 3) := by decide +kernel
theorem dX5_digest_72 : decode cX5_digest 72 = .ok (.iload_n 3, 1) := by decide +kernel
theorem dX5_digest_73 : decode cX5_digest 73 = .ok (.invokevirtual 98, 3) := by decide +kernel
theorem dX5_digest_76 : decode cX5_digest 76 = .ok (.i2l, 1) := by decide +kernel
theorem dX5_digest_77 : decode cX5_digest 77 = .ok (.ladd, 1) := by decide +kernel
theorem dX5_digest_78 : decode cX5_digest 78 = .ok (.lstore_n 1, 1) := by decide +kernel
theorem dX5_digest_79 : decode cX5_digest 79 = .ok (.ldc2_w 266, 3) := by decide +kernel
theorem dX5_digest_82 : decode cX5_digest 82 = .ok (.lload_n 1, 1) := by decide +kernel
theorem dX5_digest_83 : decode cX5_digest 83 = .ok (.lmul, 1) := by decide +kernel
theorem dX5_digest_84 : decode cX5_digest 84 = .ok (.aload_n 0, 1) := by decide +kernel
theorem dX5_digest_85 : decode cX5_digest 85 = .ok (.getfield 10, 3) := by decide +kernel
theorem dX5_digest_88 : decode cX5_digest 88 = .ok (.getfield 158, 3) := by decide +kernel
theorem dX5_digest_91 : decode cX5_digest 91 = .ok (.iload_n 3, 1) := by decide +kernel
theorem dX5_digest_92 : decode cX5_digest 92 = .ok (.invokevirtual 153, 3) := by decide +kernel
theorem dX5_digest_95 : decode cX5_digest 95 = .ok (.i2l, 1) := by decide +kernel
theorem dX5_digest_96 : decode cX5_digest 96 = .ok (.ladd, 1) := by decide +kernel
theorem dX5_digest_97 : decode cX5_digest 97 = .ok (.lstore_n 1, 1) := by decide +kernel
theorem dX5_digest_98 : decode cX5_digest 98 = .ok (.iinc 3 1, 3) := by decide +kernel
theorem dX5_digest_101 : decode cX5_digest 101 = .ok (.goto (-68), 3) := by decide +kernel
theorem dX5_digest_104 : decode cX5_digest 104 = .ok (.iconst 0, 1) := by decide +kernel
theorem dX5_digest_105 : decode cX5_digest 105 = .ok (.istore_n 3, 1) := by decide +kernel
theorem dX5_digest_106 : decode cX5_digest 106 = .ok (.iload_n 3, 1) := by decide +kernel
theorem dX5_digest_107 : decode cX5_digest 107 = .ok (.aload_n 0, 1) := by decide +kernel
theorem dX5_digest_108 : decode cX5_digest 108 = .ok (.getfield 10, 3) := by decide +kernel
theorem dX5_digest_111 : decode cX5_digest 111 = .ok (.getfield 235, 3) := by decide +kernel
theorem dX5_digest_114 : decode cX5_digest 114 = .ok (.if_icmp .ge 47, 3) := by decide +kernel
theorem dX5_digest_117 : decode cX5_digest 117 = .ok (.ldc2_w 266, 3) := by decide +kernel
theorem dX5_digest_120 : decode cX5_digest 120 = .ok (.lload_n 1, 1) := by decide +kernel
theorem dX5_digest_121 : decode cX5_digest 121 = .ok (.lmul, 1) := by decide +kernel
theorem dX5_digest_122 : decode cX5_digest 122 = .ok (.aload_n 0, 1) := by decide +kernel
theorem dX5_digest_123 : decode cX5_digest 123 = .ok (.getfield 10, 3) := by decide +kernel
theorem dX5_digest_126 : decode cX5_digest 126 = .ok (.getfield 268, 3) := by decide +kernel
theorem dX5_digest_129 : decode cX5_digest 129 = .ok (.iload_n 3, 1) := by decide +kernel
theorem dX5_digest_130 : decode cX5_digest 130 = .ok (.invokevirtual 153, 3) := by decide +kernel
theorem dX5_digest_133 : decode cX5_digest 133 = .ok (.i2l, 1) := by decide +kernel
theorem dX5_digest_134 : decode cX5_digest 134 = .ok (.ladd, 1) := by decide +kernel
theorem dX5_digest_135 : decode cX5_digest 135 = .ok (.lstore_n 1, 1) := by decide +kernel
theorem dX5_digest_136 : decode cX5_digest 136 = .ok (.ldc2_w 266, 3) := by decide +kernel
theorem dX5_digest_139 : decode cX5_digest 139 = .ok (.lload_n 1, 1) := by decide +kernel
theorem dX5_digest_140 : decode cX5_digest 140 = .ok (.lmul, 1) := by decide +kernel
theorem dX5_digest_141 : decode cX5_digest 141 = .ok (.aload_n 0, 1) := by decide +kernel
theorem dX5_digest_142 : decode cX5_digest 142 = .ok (.getfield 10, 3) := by decide +kernel
theorem dX5_digest_145 : decode cX5_digest 145 = .ok (.getfield 271, 3) := by decide +kernel
theorem dX5_digest_148 : decode cX5_digest 148 = .ok (.iload_n 3, 1) := by decide +kernel
theorem dX5_digest_149 : decode cX5_digest 149 = .ok (.invokevirtual 153, 3) := by decide +kernel
theorem dX5_digest_152 : decode cX5_digest 152 = .ok (.i2l, 1) := by decide +kernel
theorem dX5_digest_153 : decode cX5_digest 153 = .ok (.ladd, 1) := by decide +kernel
theorem dX5_digest_154 : decode cX5_digest 154 = .ok (.lstore_n 1, 1) := by decide +kernel
theorem dX5_digest_155 : decode cX5_digest 155 = .ok (.iinc 3 1, 3) := by decide +kernel
theorem dX5_digest_158 : decode cX5_digest 158 = .ok (.goto (-52), 3) := by decide +kernel
theorem dX5_digest_161 : decode cX5_digest 161 = .ok (.ldc2_w 266, 3) := by decide +kernel
theorem dX5_digest_164 : decode cX5_digest 164 = .ok (.lload_n 1, 1) := by decide +kernel
theorem dX5_digest_165 : decode cX5_digest 165 = .ok (.lmul, 1) := by decide +kernel
theorem dX5_digest_166 : decode cX5_digest 166 = .ok (.aload_n 0, 1) := by decide +kernel
theorem dX5_digest_167 : decode cX5_digest 167 = .ok (.getfield 46, 3) := by decide +kernel
theorem dX5_digest_170 : decode cX5_digest 170 = .ok (.ladd, 1) := by decide +kernel
theorem dX5_digest_171 : decode cX5_digest 171 = .ok (.lstore_n 1, 1) := by decide +kernel
theorem dX5_digest_172 : decode cX5_digest 172 = .ok (.ldc2_w 266, 3) := by decide +kernel
theorem dX5_digest_175 : decode cX5_digest 175 = .ok (.lload_n 1, 1) := by decide +kernel
theorem dX5_digest_176 : decode cX5_digest 176 = .ok (.lmul, 1) := by decide +kernel
theorem dX5_digest_177 : decode cX5_digest 177 = .ok (.aload_n 0, 1) := by decide +kernel
theorem dX5_digest_178 : decode cX5_digest 178 = .ok (.getfield 50, 3) := by decide +kernel
theorem dX5_digest_181 : decode cX5_digest 181 = .ok (.ladd, 1) := by decide +kernel
theorem dX5_digest_182 : decode cX5_digest 182 = .ok (.lreturn, 1) := by decide +kernel
theorem dX5_refusedBad_0 : decode cX5_refusedBad 0 = .ok (.aload_n 0, 1) := by decide +kernel
theorem dX5_refusedBad_1 : decode cX5_refusedBad 1 = .ok (.dup, 1) := by decide +kernel
theorem dX5_refusedBad_2 : decode cX5_refusedBad 2 = .ok (.getfield 53, 3) := by decide +kernel
theorem dX5_refusedBad_5 : decode cX5_refusedBad 5 = .ok (.iconst 1, 1) := by decide +kernel
theorem dX5_refusedBad_6 : decode cX5_refusedBad 6 = .ok (.iadd, 1) := by decide +kernel
theorem dX5_refusedBad_7 : decode cX5_refusedBad 7 = .ok (.putfield 53, 3) := by decide +kernel
theorem dX5_refusedBad_10 : decode cX5_refusedBad 10 = .ok (.bipush (-2), 2) := by decide +kernel
theorem dX5_refusedBad_12 : decode cX5_refusedBad 12 = .ok (.ireturn, 1) := by decide +kernel
theorem dX5_refusedBadFar_0 : decode cX5_refusedBadFar 0 = .ok (.aload_n 0, 1) := by decide +kernel
theorem dX5_refusedBadFar_1 : decode cX5_refusedBadFar 1 = .ok (.dup, 1) := by decide +kernel
theorem dX5_refusedBadFar_2 : decode cX5_refusedBadFar 2 = .ok (.getfield 53, 3) := by decide +kernel
theorem dX5_refusedBadFar_5 : decode cX5_refusedBadFar 5 = .ok (.iconst 1, 1) := by decide +kernel
theorem dX5_refusedBadFar_6 : decode cX5_refusedBadFar 6 = .ok (.iadd, 1) := by decide +kernel
theorem dX5_refusedBadFar_7 : decode cX5_refusedBadFar 7 = .ok (.putfield 53, 3) := by decide +kernel
theorem dX5_refusedBadFar_10 : decode cX5_refusedBadFar 10 = .ok (.sipush (-1000), 3) := by decide +kernel
theorem dX5_refusedBadFar_13 : decode cX5_refusedBadFar 13 = .ok (.ireturn, 1) := by decide +kernel
theorem dX5_refusedNo_0 : decode cX5_refusedNo 0 = .ok (.aload_n 0, 1) := by decide +kernel
theorem dX5_refusedNo_1 : decode cX5_refusedNo 1 = .ok (.dup, 1) := by decide +kernel
theorem dX5_refusedNo_2 : decode cX5_refusedNo 2 = .ok (.getfield 57, 3) := by decide +kernel
theorem dX5_refusedNo_5 : decode cX5_refusedNo 5 = .ok (.iconst 1, 1) := by decide +kernel
theorem dX5_refusedNo_6 : decode cX5_refusedNo 6 = .ok (.iadd, 1) := by decide +kernel
theorem dX5_refusedNo_7 : decode cX5_refusedNo 7 = .ok (.putfield 57, 3) := by decide +kernel
theorem dX5_refusedNo_10 : decode cX5_refusedNo 10 = .ok (.bipush (-3), 2) := by decide +kernel
theorem dX5_refusedNo_12 : decode cX5_refusedNo 12 = .ok (.ireturn, 1) := by decide +kernel
theorem dX5_refusedFull_0 : decode cX5_refusedFull 0 = .ok (.aload_n 0, 1) := by decide +kernel
theorem dX5_refusedFull_1 : decode cX5_refusedFull 1 = .ok (.dup, 1) := by decide +kernel
theorem dX5_refusedFull_2 : decode cX5_refusedFull 2 = .ok (.getfield 60, 3) := by decide +kernel
theorem dX5_refusedFull_5 : decode cX5_refusedFull 5 = .ok (.iconst 1, 1) := by decide +kernel
theorem dX5_refusedFull_6 : decode cX5_refusedFull 6 = .ok (.iadd, 1) := by decide +kernel
theorem dX5_refusedFull_7 : decode cX5_refusedFull 7 = .ok (.putfield 60, 3) := by decide +kernel
theorem dX5_refusedFull_10 : decode cX5_refusedFull 10 = .ok (.bipush (-4), 2) := by decide +kernel
theorem dX5_refusedFull_12 : decode cX5_refusedFull 12 = .ok (.ireturn, 1) := by decide +kernel
theorem dX5_howMany_0 : decode cX5_howMany 0 = .ok (.iload_n 1, 1) := by decide +kernel
theorem dX5_howMany_1 : decode cX5_howMany 1 = .ok (.tableswitch 87 0 5 #[39, 47, 55, 63, 71, 79], 39) := by decide +kernel
theorem dX5_howMany_40 : decode cX5_howMany 40 = .ok (.aload_n 0, 1) := by decide +kernel
theorem dX5_howMany_41 : decode cX5_howMany 41 = .ok (.getfield 10, 3) := by decide +kernel
theorem dX5_howMany_44 : decode cX5_howMany 44 = .ok (.getfield 71, 3) := by decide +kernel
theorem dX5_howMany_47 : decode cX5_howMany 47 = .ok (.ireturn, 1) := by decide +kernel
theorem dX5_howMany_48 : decode cX5_howMany 48 = .ok (.aload_n 0, 1) := by decide +kernel
theorem dX5_howMany_49 : decode cX5_howMany 49 = .ok (.getfield 10, 3) := by decide +kernel
theorem dX5_howMany_52 : decode cX5_howMany 52 = .ok (.getfield 85, 3) := by decide +kernel
theorem dX5_howMany_55 : decode cX5_howMany 55 = .ok (.ireturn, 1) := by decide +kernel
theorem dX5_howMany_56 : decode cX5_howMany 56 = .ok (.aload_n 0, 1) := by decide +kernel
theorem dX5_howMany_57 : decode cX5_howMany 57 = .ok (.getfield 10, 3) := by decide +kernel
theorem dX5_howMany_60 : decode cX5_howMany 60 = .ok (.getfield 130, 3) := by decide +kernel
theorem dX5_howMany_63 : decode cX5_howMany 63 = .ok (.ireturn, 1) := by decide +kernel
theorem dX5_howMany_64 : decode cX5_howMany 64 = .ok (.aload_n 0, 1) := by decide +kernel
theorem dX5_howMany_65 : decode cX5_howMany 65 = .ok (.getfield 10, 3) := by decide +kernel
theorem dX5_howMany_68 : decode cX5_howMany 68 = .ok (.getfield 136, 3) := by decide +kernel
theorem dX5_howMany_71 : decode cX5_howMany 71 = .ok (.ireturn, 1) := by decide +kernel
theorem dX5_howMany_72 : decode cX5_howMany 72 = .ok (.aload_n 0, 1) := by decide +kernel
theorem dX5_howMany_73 : decode cX5_howMany 73 = .ok (.getfield 10, 3) := by decide +kernel
theorem dX5_howMany_76 : decode cX5_howMany 76 = .ok (.getfield 235, 3) := by decide +kernel
theorem dX5_howMany_79 : decode cX5_howMany 79 = .ok (.ireturn, 1) := by decide +kernel
theorem dX5_howMany_80 : decode cX5_howMany 80 = .ok (.aload_n 0, 1) := by decide +kernel
theorem dX5_howMany_81 : decode cX5_howMany 81 = .ok (.getfield 10, 3) := by decide +kernel
theorem dX5_howMany_84 : decode cX5_howMany 84 = .ok (.getfield 140, 3) := by decide +kernel
theorem dX5_howMany_87 : decode cX5_howMany 87 = .ok (.ireturn, 1) := by decide +kernel
theorem dX5_howMany_88 : decode cX5_howMany 88 = .ok (.aload_n 0, 1) := by decide +kernel
theorem dX5_howMany_89 : decode cX5_howMany 89 = .ok (.getfield 35, 3) := by decide +kernel
theorem dX5_howMany_92 : decode cX5_howMany 92 = .ok (.getfield 102, 3) := by decide +kernel
theorem dX5_howMany_95 : decode cX5_howMany 95 = .ok (.ireturn, 1) := by decide +kernel
set_option maxRecDepth 20000 in
theorem ggX5_bestLead_X4_tell : GoodIn wsX5_bestLead wsX4_tell := goodIn_r _ [8, 9, 10, 11, 12, 13, 14, 15, 16, 17, 99, 100, 101, 102, 103, 104, 105, 106, 107, 108, 109, 110, 111, 112, 113, 114, 115, 116, 117, 118, 119, 120, 121, 122, 123, 124, 125, 126] (by decide +kernel) (by decide +kernel)
set_option maxRecDepth 20000 in
theorem gX5_bestLead_X4_tell : GoodIn wsX5_bestLead (wsV RX5 120 RX4 yX4_tell wsX4_tell) := goodIn_app (goodIn_of _ (by decide +kernel)) ggX5_bestLead_X4_tell
set_option maxRecDepth 20000 in
theorem ggX5_bestLead_X4_go : GoodIn wsX5_bestLead wsX4_go := goodIn_r _ [21, 22, 23, 24, 9, 25, 14, 26, 27, 28, 10, 29, 30, 17, 12, 31, 32, 33, 34, 35, 36, 37, 38, 39, 40, 41, 42, 43, 44, 45, 46, 47, 48, 49, 50, 51, 52, 53, 54, 55, 56, 7, 57, 16, 58, 59, 60, 61, 62, 63, 64, 65, 66, 67, 68, 69, 11, 70, 71, 72, 73, 74, 75, 76, 77, 78, 79, 80, 81, 82, 83, 84, 85, 99, 100, 101, 102, 103, 104, 105, 106, 107, 108, 109, 110, 111, 112, 113, 114, 115, 116, 117, 118, 119, 120, 121, 122, 123, 124, 125, 126, 127] (by decide +kernel) (by decide +kernel)
set_option maxRecDepth 20000 in
theorem gX5_bestLead_X4_go : GoodIn wsX5_bestLead (wsV RX5 124 RX4 yX4_go wsX4_go) := goodIn_app (goodIn_of _ (by decide +kernel)) ggX5_bestLead_X4_go
theorem dX5_bestLead_0 : decode cX5_bestLead 0 = .ok (.aload_n 0, 1) := by decide +kernel
theorem dX5_bestLead_1 : decode cX5_bestLead 1 = .ok (.getfield 28, 3) := by decide +kernel
theorem dX5_bestLead_4 : decode cX5_bestLead 4 = .ok (.aload_n 0, 1) := by decide +kernel
theorem dX5_bestLead_5 : decode cX5_bestLead 5 = .ok (.getfield 10, 3) := by decide +kernel
theorem dX5_bestLead_8 : decode cX5_bestLead 8 = .ok (.iload_n 1, 1) := by decide +kernel
theorem dX5_bestLead_9 : decode cX5_bestLead 9 = .ok (.iload_n 2, 1) := by decide +kernel
theorem dX5_bestLead_10 : decode cX5_bestLead 10 = .ok (.iconst 1, 1) := by decide +kernel
theorem dX5_bestLead_11 : decode cX5_bestLead 11 = .ok (.iload_n 3, 1) := by decide +kernel
theorem dX5_bestLead_12 : decode cX5_bestLead 12 = .ok (.invokevirtual 120, 3) := by decide +kernel
theorem dX5_bestLead_15 : decode cX5_bestLead 15 = .ok (.iconst 1, 1) := by decide +kernel
theorem dX5_bestLead_16 : decode cX5_bestLead 16 = .ok (.istore 4, 2) := by decide +kernel
theorem dX5_bestLead_18 : decode cX5_bestLead 18 = .ok (.aload_n 0, 1) := by decide +kernel
theorem dX5_bestLead_19 : decode cX5_bestLead 19 = .ok (.getfield 28, 3) := by decide +kernel
theorem dX5_bestLead_22 : decode cX5_bestLead 22 = .ok (.aload_n 0, 1) := by decide +kernel
theorem dX5_bestLead_23 : decode cX5_bestLead 23 = .ok (.getfield 10, 3) := by decide +kernel
theorem dX5_bestLead_26 : decode cX5_bestLead 26 = .ok (.invokevirtual 124, 3) := by decide +kernel
theorem dX5_bestLead_29 : decode cX5_bestLead 29 = .ok (.istore 5, 2) := by decide +kernel
theorem dX5_bestLead_31 : decode cX5_bestLead 31 = .ok (.iconst 2, 1) := by decide +kernel
theorem dX5_bestLead_32 : decode cX5_bestLead 32 = .ok (.istore 6, 2) := by decide +kernel
theorem dX5_bestLead_34 : decode cX5_bestLead 34 = .ok (.iload 6, 2) := by decide +kernel
theorem dX5_bestLead_36 : decode cX5_bestLead 36 = .ok (.bipush 9, 2) := by decide +kernel
theorem dX5_bestLead_38 : decode cX5_bestLead 38 = .ok (.if_icmp .gt 46, 3) := by decide +kernel
theorem dX5_bestLead_41 : decode cX5_bestLead 41 = .ok (.aload_n 0, 1) := by decide +kernel
theorem dX5_bestLead_42 : decode cX5_bestLead 42 = .ok (.getfield 28, 3) := by decide +kernel
theorem dX5_bestLead_45 : decode cX5_bestLead 45 = .ok (.iload 6, 2) := by decide +kernel
theorem dX5_bestLead_47 : decode cX5_bestLead 47 = .ok (.putfield 274, 3) := by decide +kernel
theorem dX5_bestLead_50 : decode cX5_bestLead 50 = .ok (.aload_n 0, 1) := by decide +kernel
theorem dX5_bestLead_51 : decode cX5_bestLead 51 = .ok (.getfield 28, 3) := by decide +kernel
theorem dX5_bestLead_54 : decode cX5_bestLead 54 = .ok (.aload_n 0, 1) := by decide +kernel
theorem dX5_bestLead_55 : decode cX5_bestLead 55 = .ok (.getfield 10, 3) := by decide +kernel
theorem dX5_bestLead_58 : decode cX5_bestLead 58 = .ok (.invokevirtual 124, 3) := by decide +kernel
theorem dX5_bestLead_61 : decode cX5_bestLead 61 = .ok (.istore 7, 2) := by decide +kernel
theorem dX5_bestLead_63 : decode cX5_bestLead 63 = .ok (.iload 7, 2) := by decide +kernel
theorem dX5_bestLead_65 : decode cX5_bestLead 65 = .ok (.iload 5, 2) := by decide +kernel
theorem dX5_bestLead_67 : decode cX5_bestLead 67 = .ok (.if_icmp .ge 11, 3) := by decide +kernel
theorem dX5_bestLead_70 : decode cX5_bestLead 70 = .ok (.iload 7, 2) := by decide +kernel
theorem dX5_bestLead_72 : decode cX5_bestLead 72 = .ok (.istore 5, 2) := by decide +kernel
theorem dX5_bestLead_74 : decode cX5_bestLead 74 = .ok (.iload 6, 2) := by decide +kernel
theorem dX5_bestLead_76 : decode cX5_bestLead 76 = .ok (.istore 4, 2) := by decide +kernel
theorem dX5_bestLead_78 : decode cX5_bestLead 78 = .ok (.iinc 6 1, 3) := by decide +kernel
theorem dX5_bestLead_81 : decode cX5_bestLead 81 = .ok (.goto (-47), 3) := by decide +kernel
theorem dX5_bestLead_84 : decode cX5_bestLead 84 = .ok (.iload 4, 2) := by decide +kernel
theorem dX5_bestLead_86 : decode cX5_bestLead 86 = .ok (.ireturn, 1) := by decide +kernel
set_option maxRecDepth 20000 in
theorem ggX5_minutesByBestLead_X5_bestLead : GoodIn wsX5_minutesByBestLead wsX5_bestLead := goodIn_r _ [7, 1, 2, 8, 9, 10, 11, 12, 13, 14, 15, 16, 17, 18, 19, 20, 21, 22, 23, 24, 25, 26, 27, 28, 29, 30, 31, 32, 33, 34, 35, 36, 37, 38, 39, 40, 41, 42, 43, 44, 45, 46, 47, 48, 49, 50, 51, 52, 53, 54, 55, 56, 57, 58, 59, 60, 61, 62, 63, 64, 65, 66, 67, 68, 69, 70, 71, 72, 73, 74, 75, 76, 77, 78, 6, 79, 80, 81, 82, 83, 84, 85, 86, 87, 88, 89, 90, 91, 92, 93, 94, 95, 96, 97, 98, 99, 100, 101, 102, 103, 104, 105, 106, 107, 108, 109, 110, 111, 112, 113, 114, 115, 116, 117, 118, 119, 120, 121, 122, 123, 124, 125, 126, 127, 128, 129, 130, 131] (by decide +kernel) (by decide +kernel)
set_option maxRecDepth 20000 in
theorem gX5_minutesByBestLead_X5_bestLead : GoodIn wsX5_minutesByBestLead (wsV RX5 191 RX5 yX5_bestLead wsX5_bestLead) := goodIn_app (goodIn_of _ (by decide +kernel)) ggX5_minutesByBestLead_X5_bestLead
set_option maxRecDepth 20000 in
theorem ggX5_minutesByBestLead_X4_tell : GoodIn wsX5_minutesByBestLead wsX4_tell := goodIn_r _ [13, 14, 15, 16, 17, 18, 19, 20, 21, 22, 103, 104, 105, 106, 107, 108, 109, 110, 111, 112, 113, 114, 115, 116, 117, 118, 119, 120, 121, 122, 123, 124, 125, 126, 127, 128, 129, 130] (by decide +kernel) (by decide +kernel)
set_option maxRecDepth 20000 in
theorem gX5_minutesByBestLead_X4_tell : GoodIn wsX5_minutesByBestLead (wsV RX5 120 RX4 yX4_tell wsX4_tell) := goodIn_app (goodIn_of _ (by decide +kernel)) ggX5_minutesByBestLead_X4_tell
set_option maxRecDepth 20000 in
theorem ggX5_minutesByBestLead_X4_go : GoodIn wsX5_minutesByBestLead wsX4_go := goodIn_r _ [26, 27, 28, 29, 14, 30, 19, 31, 32, 33, 15, 34, 35, 22, 17, 36, 37, 38, 39, 40, 41, 42, 43, 44, 45, 46, 47, 48, 49, 50, 51, 52, 53, 54, 55, 56, 57, 58, 59, 60, 61, 12, 62, 21, 63, 64, 65, 66, 67, 68, 69, 70, 71, 72, 73, 74, 16, 75, 76, 77, 78, 6, 79, 80, 81, 82, 83, 84, 85, 86, 87, 88, 89, 103, 104, 105, 106, 107, 108, 109, 110, 111, 112, 113, 114, 115, 116, 117, 118, 119, 120, 121, 122, 123, 124, 125, 126, 127, 128, 129, 130, 131] (by decide +kernel) (by decide +kernel)
set_option maxRecDepth 20000 in
theorem gX5_minutesByBestLead_X4_go : GoodIn wsX5_minutesByBestLead (wsV RX5 124 RX4 yX4_go wsX4_go) := goodIn_app (goodIn_of _ (by decide +kernel)) ggX5_minutesByBestLead_X4_go
theorem dX5_minutesByBestLead_0 : decode cX5_minutesByBestLead 0 = .ok (.aload_n 0, 1) := by decide +kernel
theorem dX5_minutesByBestLead_1 : decode cX5_minutesByBestLead 1 = .ok (.iload_n 1, 1) := by decide +kernel
theorem dX5_minutesByBestLead_2 : decode cX5_minutesByBestLead 2 = .ok (.iload_n 2, 1) := by decide +kernel
theorem dX5_minutesByBestLead_3 : decode cX5_minutesByBestLead 3 = .ok (.iload_n 3, 1) := by decide +kernel
theorem dX5_minutesByBestLead_4 : decode cX5_minutesByBestLead 4 = .ok (.invokevirtual 191, 3) := by decide +kernel
theorem dX5_minutesByBestLead_7 : decode cX5_minutesByBestLead 7 = .ok (.istore 4, 2) := by decide +kernel
theorem dX5_minutesByBestLead_9 : decode cX5_minutesByBestLead 9 = .ok (.aload_n 0, 1) := by decide +kernel
theorem dX5_minutesByBestLead_10 : decode cX5_minutesByBestLead 10 = .ok (.getfield 28, 3) := by decide +kernel
theorem dX5_minutesByBestLead_13 : decode cX5_minutesByBestLead 13 = .ok (.aload_n 0, 1) := by decide +kernel
theorem dX5_minutesByBestLead_14 : decode cX5_minutesByBestLead 14 = .ok (.getfield 10, 3) := by decide +kernel
theorem dX5_minutesByBestLead_17 : decode cX5_minutesByBestLead 17 = .ok (.iload_n 1, 1) := by decide +kernel
theorem dX5_minutesByBestLead_18 : decode cX5_minutesByBestLead 18 = .ok (.iload_n 2, 1) := by decide +kernel
theorem dX5_minutesByBestLead_19 : decode cX5_minutesByBestLead 19 = .ok (.iload 4, 2) := by decide +kernel
theorem dX5_minutesByBestLead_21 : decode cX5_minutesByBestLead 21 = .ok (.iload_n 3, 1) := by decide +kernel
theorem dX5_minutesByBestLead_22 : decode cX5_minutesByBestLead 22 = .ok (.invokevirtual 120, 3) := by decide +kernel
theorem dX5_minutesByBestLead_25 : decode cX5_minutesByBestLead 25 = .ok (.aload_n 0, 1) := by decide +kernel
theorem dX5_minutesByBestLead_26 : decode cX5_minutesByBestLead 26 = .ok (.getfield 28, 3) := by decide +kernel
theorem dX5_minutesByBestLead_29 : decode cX5_minutesByBestLead 29 = .ok (.aload_n 0, 1) := by decide +kernel
theorem dX5_minutesByBestLead_30 : decode cX5_minutesByBestLead 30 = .ok (.getfield 10, 3) := by decide +kernel
theorem dX5_minutesByBestLead_33 : decode cX5_minutesByBestLead 33 = .ok (.invokevirtual 124, 3) := by decide +kernel
theorem dX5_minutesByBestLead_36 : decode cX5_minutesByBestLead 36 = .ok (.ireturn, 1) := by decide +kernel
set_option maxRecDepth 20000 in
theorem ggX5_readingsFit_X2_get : GoodIn wsX5_readingsFit wsX2_get := goodIn_r _ [11, 12, 54] (by decide +kernel) (by decide +kernel)
set_option maxRecDepth 20000 in
theorem gX5_readingsFit_X2_get : GoodIn wsX5_readingsFit (wsV RX5 153 RX2 yX2_get wsX2_get) := goodIn_app (goodIn_of _ (by decide +kernel)) ggX5_readingsFit_X2_get
theorem dX5_readingsFit_0 : decode cX5_readingsFit 0 = .ok (.iconst 0, 1) := by decide +kernel
theorem dX5_readingsFit_1 : decode cX5_readingsFit 1 = .ok (.istore_n 1, 1) := by decide +kernel
theorem dX5_readingsFit_2 : decode cX5_readingsFit 2 = .ok (.iload_n 1, 1) := by decide +kernel
theorem dX5_readingsFit_3 : decode cX5_readingsFit 3 = .ok (.aload_n 0, 1) := by decide +kernel
theorem dX5_readingsFit_4 : decode cX5_readingsFit 4 = .ok (.getfield 10, 3) := by decide +kernel
theorem dX5_readingsFit_7 : decode cX5_readingsFit 7 = .ok (.getfield 235, 3) := by decide +kernel
theorem dX5_readingsFit_10 : decode cX5_readingsFit 10 = .ok (.if_icmp .ge 46, 3) := by decide +kernel
theorem dX5_readingsFit_13 : decode cX5_readingsFit 13 = .ok (.aload_n 0, 1) := by decide +kernel
theorem dX5_readingsFit_14 : decode cX5_readingsFit 14 = .ok (.getfield 28, 3) := by decide +kernel
theorem dX5_readingsFit_17 : decode cX5_readingsFit 17 = .ok (.getfield 176, 3) := by decide +kernel
theorem dX5_readingsFit_20 : decode cX5_readingsFit 20 = .ok (.aload_n 0, 1) := by decide +kernel
theorem dX5_readingsFit_21 : decode cX5_readingsFit 21 = .ok (.getfield 10, 3) := by decide +kernel
theorem dX5_readingsFit_24 : decode cX5_readingsFit 24 = .ok (.getfield 268, 3) := by decide +kernel
theorem dX5_readingsFit_27 : decode cX5_readingsFit 27 = .ok (.iload_n 1, 1) := by decide +kernel
theorem dX5_readingsFit_28 : decode cX5_readingsFit 28 = .ok (.invokevirtual 153, 3) := by decide +kernel
theorem dX5_readingsFit_31 : decode cX5_readingsFit 31 = .ok (.invokevirtual 153, 3) := by decide +kernel
theorem dX5_readingsFit_34 : decode cX5_readingsFit 34 = .ok (.aload_n 0, 1) := by decide +kernel
theorem dX5_readingsFit_35 : decode cX5_readingsFit 35 = .ok (.getfield 10, 3) := by decide +kernel
theorem dX5_readingsFit_38 : decode cX5_readingsFit 38 = .ok (.getfield 271, 3) := by decide +kernel
theorem dX5_readingsFit_41 : decode cX5_readingsFit 41 = .ok (.iload_n 1, 1) := by decide +kernel
theorem dX5_readingsFit_42 : decode cX5_readingsFit 42 = .ok (.invokevirtual 153, 3) := by decide +kernel
theorem dX5_readingsFit_45 : decode cX5_readingsFit 45 = .ok (.if_icmp .eq 5, 3) := by decide +kernel
theorem dX5_readingsFit_48 : decode cX5_readingsFit 48 = .ok (.iconst 0, 1) := by decide +kernel
theorem dX5_readingsFit_49 : decode cX5_readingsFit 49 = .ok (.ireturn, 1) := by decide +kernel
theorem dX5_readingsFit_50 : decode cX5_readingsFit 50 = .ok (.iinc 1 1, 3) := by decide +kernel
theorem dX5_readingsFit_53 : decode cX5_readingsFit 53 = .ok (.goto (-51), 3) := by decide +kernel
theorem dX5_readingsFit_56 : decode cX5_readingsFit 56 = .ok (.iconst 1, 1) := by decide +kernel
theorem dX5_readingsFit_57 : decode cX5_readingsFit 57 = .ok (.ireturn, 1) := by decide +kernel
set_option maxRecDepth 20000 in
theorem ggX5_setFraction_X5_commonDivisor : GoodIn wsX5_setFraction wsX5_commonDivisor := goodIn_r _ [6] (by decide +kernel) (by decide +kernel)
set_option maxRecDepth 20000 in
theorem gX5_setFraction_X5_commonDivisor : GoodIn wsX5_setFraction (va_wsS RX5 277 yX5_commonDivisor wsX5_commonDivisor) := goodIn_app (goodIn_of _ (by decide +kernel)) ggX5_setFraction_X5_commonDivisor
theorem dX5_setFraction_0 : decode cX5_setFraction 0 = .ok (.lload_n 1, 1) := by decide +kernel
theorem dX5_setFraction_1 : decode cX5_setFraction 1 = .ok (.lload_n 3, 1) := by decide +kernel
theorem dX5_setFraction_2 : decode cX5_setFraction 2 = .ok (.invokestatic 277, 3) := by decide +kernel
theorem dX5_setFraction_5 : decode cX5_setFraction 5 = .ok (.lstore 5, 2) := by decide +kernel
theorem dX5_setFraction_7 : decode cX5_setFraction 7 = .ok (.lload 5, 2) := by decide +kernel
theorem dX5_setFraction_9 : decode cX5_setFraction 9 = .ok (.lconst 0, 1) := by decide +kernel
theorem dX5_setFraction_10 : decode cX5_setFraction 10 = .ok (.lcmp, 1) := by decide +kernel
theorem dX5_setFraction_11 : decode cX5_setFraction 11 = .ok (.ifCond .le 19, 3) := by decide +kernel
theorem dX5_setFraction_14 : decode cX5_setFraction 14 = .ok (.aload_n 0, 1) := by decide +kernel
theorem dX5_setFraction_15 : decode cX5_setFraction 15 = .ok (.lload_n 1, 1) := by decide +kernel
theorem dX5_setFraction_16 : decode cX5_setFraction 16 = .ok (.lload 5, 2) := by decide +kernel
theorem dX5_setFraction_18 : decode cX5_setFraction 18 = .ok (.ldiv, 1) := by decide +kernel
theorem dX5_setFraction_19 : decode cX5_setFraction 19 = .ok (.putfield 46, 3) := by decide +kernel
theorem dX5_setFraction_22 : decode cX5_setFraction 22 = .ok (.aload_n 0, 1) := by decide +kernel
theorem dX5_setFraction_23 : decode cX5_setFraction 23 = .ok (.lload_n 3, 1) := by decide +kernel
theorem dX5_setFraction_24 : decode cX5_setFraction 24 = .ok (.lload 5, 2) := by decide +kernel
theorem dX5_setFraction_26 : decode cX5_setFraction 26 = .ok (.ldiv, 1) := by decide +kernel
theorem dX5_setFraction_27 : decode cX5_setFraction 27 = .ok (.putfield 50, 3) := by decide +kernel
theorem dX5_setFraction_30 : decode cX5_setFraction 30 = .ok (.return_, 1) := by decide +kernel
theorem dX5_commonDivisor_0 : decode cX5_commonDivisor 0 = .ok (.lload_n 0, 1) := by decide +kernel
theorem dX5_commonDivisor_1 : decode cX5_commonDivisor 1 = .ok (.lstore 4, 2) := by decide +kernel
theorem dX5_commonDivisor_3 : decode cX5_commonDivisor 3 = .ok (.lload_n 2, 1) := by decide +kernel
theorem dX5_commonDivisor_4 : decode cX5_commonDivisor 4 = .ok (.lstore 6, 2) := by decide +kernel
theorem dX5_commonDivisor_6 : decode cX5_commonDivisor 6 = .ok (.iconst 0, 1) := by decide +kernel
theorem dX5_commonDivisor_7 : decode cX5_commonDivisor 7 = .ok (.istore 8, 2) := by decide +kernel
theorem dX5_commonDivisor_9 : decode cX5_commonDivisor 9 = .ok (.iload 8, 2) := by decide +kernel
theorem dX5_commonDivisor_11 : decode cX5_commonDivisor 11 = .ok (.bipush 100, 2) := by decide +kernel
theorem dX5_commonDivisor_13 : decode cX5_commonDivisor 13 = .ok (.if_icmp .ge 31, 3) := by decide +kernel
theorem dX5_commonDivisor_16 : decode cX5_commonDivisor 16 = .ok (.lload 6, 2) := by decide +kernel
theorem dX5_commonDivisor_18 : decode cX5_commonDivisor 18 = .ok (.lconst 0, 1) := by decide +kernel
theorem dX5_commonDivisor_19 : decode cX5_commonDivisor 19 = .ok (.lcmp, 1) := by decide +kernel
theorem dX5_commonDivisor_20 : decode cX5_commonDivisor 20 = .ok (.ifCond .eq 24, 3) := by decide +kernel
theorem dX5_commonDivisor_23 : decode cX5_commonDivisor 23 = .ok (.lload 4, 2) := by decide +kernel
theorem dX5_commonDivisor_25 : decode cX5_commonDivisor 25 = .ok (.lload 6, 2) := by decide +kernel
theorem dX5_commonDivisor_27 : decode cX5_commonDivisor 27 = .ok (.lrem, 1) := by decide +kernel
theorem dX5_commonDivisor_28 : decode cX5_commonDivisor 28 = .ok (.lstore 9, 2) := by decide +kernel
theorem dX5_commonDivisor_30 : decode cX5_commonDivisor 30 = .ok (.lload 6, 2) := by decide +kernel
theorem dX5_commonDivisor_32 : decode cX5_commonDivisor 32 = .ok (.lstore 4, 2) := by decide +kernel
theorem dX5_commonDivisor_34 : decode cX5_commonDivisor 34 = .ok (.lload 9, 2) := by decide +kernel
theorem dX5_commonDivisor_36 : decode cX5_commonDivisor 36 = .ok (.lstore 6, 2) := by decide +kernel
theorem dX5_commonDivisor_38 : decode cX5_commonDivisor 38 = .ok (.iinc 8 1, 3) := by decide +kernel
theorem dX5_commonDivisor_41 : decode cX5_commonDivisor 41 = .ok (.goto (-32), 3) := by decide +kernel
theorem dX5_commonDivisor_44 : decode cX5_commonDivisor 44 = .ok (.lload 4, 2) := by decide +kernel
theorem dX5_commonDivisor_46 : decode cX5_commonDivisor 46 = .ok (.lreturn, 1) := by decide +kernel
set_option maxRecDepth 20000 in
theorem ggX5_isRun_X5_within : GoodIn wsX5_isRun wsX5_within := goodIn_r _ [4] (by decide +kernel) (by decide +kernel)
set_option maxRecDepth 20000 in
theorem gX5_isRun_X5_within : GoodIn wsX5_isRun (va_wsS RX5 63 yX5_within wsX5_within) := goodIn_app (goodIn_of _ (by decide +kernel)) ggX5_isRun_X5_within
theorem dX5_isRun_0 : decode cX5_isRun 0 = .ok (.iload_n 0, 1) := by decide +kernel
theorem dX5_isRun_1 : decode cX5_isRun 1 = .ok (.iconst 0, 1) := by decide +kernel
theorem dX5_isRun_2 : decode cX5_isRun 2 = .ok (.iconst 1, 1) := by decide +kernel
theorem dX5_isRun_3 : decode cX5_isRun 3 = .ok (.invokestatic 63, 3) := by decide +kernel
theorem dX5_isRun_6 : decode cX5_isRun 6 = .ok (.ifCond .eq 35, 3) := by decide +kernel
theorem dX5_isRun_9 : decode cX5_isRun 9 = .ok (.iload_n 1, 1) := by decide +kernel
theorem dX5_isRun_10 : decode cX5_isRun 10 = .ok (.iconst 0, 1) := by decide +kernel
theorem dX5_isRun_11 : decode cX5_isRun 11 = .ok (.iconst 2, 1) := by decide +kernel
theorem dX5_isRun_12 : decode cX5_isRun 12 = .ok (.invokestatic 63, 3) := by decide +kernel
theorem dX5_isRun_15 : decode cX5_isRun 15 = .ok (.ifCond .eq 26, 3) := by decide +kernel
theorem dX5_isRun_18 : decode cX5_isRun 18 = .ok (.iload_n 2, 1) := by decide +kernel
theorem dX5_isRun_19 : decode cX5_isRun 19 = .ok (.iconst 1, 1) := by decide +kernel
theorem dX5_isRun_20 : decode cX5_isRun 20 = .ok (.bipush 9, 2) := by decide +kernel
theorem dX5_isRun_22 : decode cX5_isRun 22 = .ok (.invokestatic 63, 3) := by decide +kernel
theorem dX5_isRun_25 : decode cX5_isRun 25 = .ok (.ifCond .eq 16, 3) := by decide +kernel
theorem dX5_isRun_28 : decode cX5_isRun 28 = .ok (.iload_n 3, 1) := by decide +kernel
theorem dX5_isRun_29 : decode cX5_isRun 29 = .ok (.iconst 0, 1) := by decide +kernel
theorem dX5_isRun_30 : decode cX5_isRun 30 = .ok (.iconst 1, 1) := by decide +kernel
theorem dX5_isRun_31 : decode cX5_isRun 31 = .ok (.invokestatic 63, 3) := by decide +kernel
theorem dX5_isRun_34 : decode cX5_isRun 34 = .ok (.ifCond .eq 7, 3) := by decide +kernel
theorem dX5_isRun_37 : decode cX5_isRun 37 = .ok (.iconst 1, 1) := by decide +kernel
theorem dX5_isRun_38 : decode cX5_isRun 38 = .ok (.goto 4, 3) := by decide +kernel
theorem dX5_isRun_41 : decode cX5_isRun 41 = .ok (.iconst 0, 1) := by decide +kernel
theorem dX5_isRun_42 : decode cX5_isRun 42 = .ok (.ireturn, 1) := by decide +kernel
set_option maxRecDepth 20000 in
theorem ggX5_isLedRun_X5_isRun : GoodIn wsX5_isLedRun wsX5_isRun := goodIn_r _ [4, 5, 6, 3, 7] (by decide +kernel) (by decide +kernel)
set_option maxRecDepth 20000 in
theorem gX5_isLedRun_X5_isRun : GoodIn wsX5_isLedRun (va_wsS RX5 116 yX5_isRun wsX5_isRun) := goodIn_app (goodIn_of _ (by decide +kernel)) ggX5_isLedRun_X5_isRun
theorem dX5_isLedRun_0 : decode cX5_isLedRun 0 = .ok (.iload_n 0, 1) := by decide +kernel
theorem dX5_isLedRun_1 : decode cX5_isLedRun 1 = .ok (.iload_n 1, 1) := by decide +kernel
theorem dX5_isLedRun_2 : decode cX5_isLedRun 2 = .ok (.iconst 1, 1) := by decide +kernel
theorem dX5_isLedRun_3 : decode cX5_isLedRun 3 = .ok (.iload_n 2, 1) := by decide +kernel
theorem dX5_isLedRun_4 : decode cX5_isLedRun 4 = .ok (.invokestatic 116, 3) := by decide +kernel
theorem dX5_isLedRun_7 : decode cX5_isLedRun 7 = .ok (.ifCond .eq 11, 3) := by decide +kernel
theorem dX5_isLedRun_10 : decode cX5_isLedRun 10 = .ok (.iload_n 1, 1) := by decide +kernel
theorem dX5_isLedRun_11 : decode cX5_isLedRun 11 = .ok (.ifCond .eq 7, 3) := by decide +kernel
theorem dX5_isLedRun_14 : decode cX5_isLedRun 14 = .ok (.iconst 1, 1) := by decide +kernel
theorem dX5_isLedRun_15 : decode cX5_isLedRun 15 = .ok (.goto 4, 3) := by decide +kernel
theorem dX5_isLedRun_18 : decode cX5_isLedRun 18 = .ok (.iconst 0, 1) := by decide +kernel
theorem dX5_isLedRun_19 : decode cX5_isLedRun 19 = .ok (.ireturn, 1) := by decide +kernel
theorem dX5_within_0 : decode cX5_within 0 = .ok (.iload_n 0, 1) := by decide +kernel
theorem dX5_within_1 : decode cX5_within 1 = .ok (.iload_n 1, 1) := by decide +kernel
theorem dX5_within_2 : decode cX5_within 2 = .ok (.if_icmp .lt 12, 3) := by decide +kernel
theorem dX5_within_5 : decode cX5_within 5 = .ok (.iload_n 0, 1) := by decide +kernel
theorem dX5_within_6 : decode cX5_within 6 = .ok (.iload_n 2, 1) := by decide +kernel
theorem dX5_within_7 : decode cX5_within 7 = .ok (.if_icmp .gt 7, 3) := by decide +kernel
theorem dX5_within_10 : decode cX5_within 10 = .ok (.iconst 1, 1) := by decide +kernel
theorem dX5_within_11 : decode cX5_within 11 = .ok (.goto 4, 3) := by decide +kernel
theorem dX5_within_14 : decode cX5_within 14 = .ok (.iconst 0, 1) := by decide +kernel
theorem dX5_within_15 : decode cX5_within 15 = .ok (.ireturn, 1) := by decide +kernel
theorem dX5_halfCutUp_0 : decode cX5_halfCutUp 0 = .ok (.iload_n 0, 1) := by decide +kernel
theorem dX5_halfCutUp_1 : decode cX5_halfCutUp 1 = .ok (.iconst 1, 1) := by decide +kernel
theorem dX5_halfCutUp_2 : decode cX5_halfCutUp 2 = .ok (.iadd, 1) := by decide +kernel
theorem dX5_halfCutUp_3 : decode cX5_halfCutUp 3 = .ok (.iconst 2, 1) := by decide +kernel
theorem dX5_halfCutUp_4 : decode cX5_halfCutUp 4 = .ok (.idiv, 1) := by decide +kernel
theorem dX5_halfCutUp_5 : decode cX5_halfCutUp 5 = .ok (.ireturn, 1) := by decide +kernel
