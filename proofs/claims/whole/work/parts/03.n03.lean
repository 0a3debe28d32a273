set_option maxRecDepth 20000 in
theorem ggX0_init_X2_init : GoodIn wsX0_init wsX2_init := goodIn_r _ [23, 24, 2, 3, 25, 26, 27, 28, 29, 30, 45] (by decide +kernel) (by decide +kernel)
set_option maxRecDepth 20000 in
theorem gX0_init_X2_init : GoodIn wsX0_init (wsX2_init) := ggX0_init_X2_init
theorem dX0_init_0 : decode cX0_init 0 = .ok (.aload_n 0, 1) := by decide +kernel
theorem dX0_init_1 : decode cX0_init 1 = .ok (.invokespecial 3, 3) := by decide +kernel
theorem dX0_init_4 : decode cX0_init 4 = .ok (.aload_n 0, 1) := by decide +kernel
theorem dX0_init_5 : decode cX0_init 5 = .ok (.iconst 0, 1) := by decide +kernel
theorem dX0_init_6 : decode cX0_init 6 = .ok (.putfield 9, 3) := by decide +kernel
theorem dX0_init_9 : decode cX0_init 9 = .ok (.aload_n 0, 1) := by decide +kernel
theorem dX0_init_10 : decode cX0_init 10 = .ok (.iconst 5, 1) := by decide +kernel
theorem dX0_init_11 : decode cX0_init 11 = .ok (.putfield 15, 3) := by decide +kernel
theorem dX0_init_14 : decode cX0_init 14 = .ok (.aload_n 0, 1) := by decide +kernel
theorem dX0_init_15 : decode cX0_init 15 = .ok (.iconst 0, 1) := by decide +kernel
theorem dX0_init_16 : decode cX0_init 16 = .ok (.putfield 18, 3) := by decide +kernel
theorem dX0_init_19 : decode cX0_init 19 = .ok (.aload_n 0, 1) := by decide +kernel
theorem dX0_init_20 : decode cX0_init 20 = .ok (.iconst 0, 1) := by decide +kernel
theorem dX0_init_21 : decode cX0_init 21 = .ok (.putfield 21, 3) := by decide +kernel
theorem dX0_init_24 : decode cX0_init 24 = .ok (.aload_n 0, 1) := by decide +kernel
theorem dX0_init_25 : decode cX0_init 25 = .ok (.iconst 0, 1) := by decide +kernel
theorem dX0_init_26 : decode cX0_init 26 = .ok (.putfield 24, 3) := by decide +kernel
theorem dX0_init_29 : decode cX0_init 29 = .ok (.aload_n 0, 1) := by decide +kernel
theorem dX0_init_30 : decode cX0_init 30 = .ok (.iconst 0, 1) := by decide +kernel
theorem dX0_init_31 : decode cX0_init 31 = .ok (.putfield 27, 3) := by decide +kernel
theorem dX0_init_34 : decode cX0_init 34 = .ok (.aload_n 0, 1) := by decide +kernel
theorem dX0_init_35 : decode cX0_init 35 = .ok (.iconst 0, 1) := by decide +kernel
theorem dX0_init_36 : decode cX0_init 36 = .ok (.putfield 30, 3) := by decide +kernel
theorem dX0_init_39 : decode cX0_init 39 = .ok (.aload_n 0, 1) := by decide +kernel
theorem dX0_init_40 : decode cX0_init 40 = .ok (.new 33, 3) := by decide +kernel
theorem dX0_init_43 : decode cX0_init 43 = .ok (.dup, 1) := by decide +kernel
theorem dX0_init_44 : decode cX0_init 44 = .ok (.bipush 8, 2) := by decide +kernel
theorem dX0_init_46 : decode cX0_init 46 = .ok (.invokespecial 35, 3) := by decide +kernel
theorem dX0_init_49 : decode cX0_init 49 = .ok (.putfield 38, 3) := by decide +kernel
theorem dX0_init_52 : decode cX0_init 52 = .ok (.aload_n 0, 1) := by decide +kernel
theorem dX0_init_53 : decode cX0_init 53 = .ok (.new 33, 3) := by decide +kernel
theorem dX0_init_56 : decode cX0_init 56 = .ok (.dup, 1) := by decide +kernel
theorem dX0_init_57 : decode cX0_init 57 = .ok (.bipush 8, 2) := by decide +kernel
theorem dX0_init_59 : decode cX0_init 59 = .ok (.invokespecial 35, 3) := by decide +kernel
theorem dX0_init_62 : decode cX0_init 62 = .ok (.putfield 42, 3) := by decide +kernel
theorem dX0_init_65 : decode cX0_init 65 = .ok (.aload_n 0, 1) := by decide +kernel
theorem dX0_init_66 : decode cX0_init 66 = .ok (.new 33, 3) := by decide +kernel
theorem dX0_init_69 : decode cX0_init 69 = .ok (.dup, 1) := by decide +kernel
theorem dX0_init_70 : decode cX0_init 70 = .ok (.bipush 6, 2) := by decide +kernel
theorem dX0_init_72 : decode cX0_init 72 = .ok (.invokespecial 35, 3) := by decide +kernel
theorem dX0_init_75 : decode cX0_init 75 = .ok (.putfield 45, 3) := by decide +kernel
theorem dX0_init_78 : decode cX0_init 78 = .ok (.aload_n 0, 1) := by decide +kernel
theorem dX0_init_79 : decode cX0_init 79 = .ok (.new 33, 3) := by decide +kernel
theorem dX0_init_82 : decode cX0_init 82 = .ok (.dup, 1) := by decide +kernel
theorem dX0_init_83 : decode cX0_init 83 = .ok (.bipush 6, 2) := by decide +kernel
theorem dX0_init_85 : decode cX0_init 85 = .ok (.invokespecial 35, 3) := by decide +kernel
theorem dX0_init_88 : decode cX0_init 88 = .ok (.putfield 48, 3) := by decide +kernel
theorem dX0_init_91 : decode cX0_init 91 = .ok (.aload_n 0, 1) := by decide +kernel
theorem dX0_init_92 : decode cX0_init 92 = .ok (.new 33, 3) := by decide +kernel
theorem dX0_init_95 : decode cX0_init 95 = .ok (.dup, 1) := by decide +kernel
theorem dX0_init_96 : decode cX0_init 96 = .ok (.bipush 8, 2) := by decide +kernel
theorem dX0_init_98 : decode cX0_init 98 = .ok (.invokespecial 35, 3) := by decide +kernel
theorem dX0_init_101 : decode cX0_init 101 = .ok (.putfield 51, 3) := by decide +kernel
theorem dX0_init_104 : decode cX0_init 104 = .ok (.aload_n 0, 1) := by decide +kernel
theorem dX0_init_105 : decode cX0_init 105 = .ok (.new 33, 3) := by decide +kernel
theorem dX0_init_108 : decode cX0_init 108 = .ok (.dup, 1) := by decide +kernel
theorem dX0_init_109 : decode cX0_init 109 = .ok (.bipush 8, 2) := by decide +kernel
theorem dX0_init_111 : decode cX0_init 111 = .ok (.invokespecial 35, 3) := by decide +kernel
theorem dX0_init_114 : decode cX0_init 114 = .ok (.putfield 54, 3) := by decide +kernel
theorem dX0_init_117 : decode cX0_init 117 = .ok (.aload_n 0, 1) := by decide +kernel
theorem dX0_init_118 : decode cX0_init 118 = .ok (.new 33, 3) := by decide +kernel
theorem dX0_init_121 : decode cX0_init 121 = .ok (.dup, 1) := by decide +kernel
theorem dX0_init_122 : decode cX0_init 122 = .ok (.bipush 8, 2) := by decide +kernel
theorem dX0_init_124 : decode cX0_init 124 = .ok (.invokespecial 35, 3) := by decide +kernel
theorem dX0_init_127 : decode cX0_init 127 = .ok (.putfield 57, 3) := by decide +kernel
theorem dX0_init_130 : decode cX0_init 130 = .ok (.return_, 1) := by decide +kernel
theorem dX0_reset_0 : decode cX0_reset 0 = .ok (.aload_n 0, 1) := by decide +kernel
theorem dX0_reset_1 : decode cX0_reset 1 = .ok (.iconst 0, 1) := by decide +kernel
theorem dX0_reset_2 : decode cX0_reset 2 = .ok (.putfield 9, 3) := by decide +kernel
theorem dX0_reset_5 : decode cX0_reset 5 = .ok (.aload_n 0, 1) := by decide +kernel
theorem dX0_reset_6 : decode cX0_reset 6 = .ok (.iload_n 1, 1) := by decide +kernel
theorem dX0_reset_7 : decode cX0_reset 7 = .ok (.putfield 15, 3) := by decide +kernel
theorem dX0_reset_10 : decode cX0_reset 10 = .ok (.aload_n 0, 1) := by decide +kernel
theorem dX0_reset_11 : decode cX0_reset 11 = .ok (.iconst 0, 1) := by decide +kernel
theorem dX0_reset_12 : decode cX0_reset 12 = .ok (.putfield 18, 3) := by decide +kernel
theorem dX0_reset_15 : decode cX0_reset 15 = .ok (.aload_n 0, 1) := by decide +kernel
theorem dX0_reset_16 : decode cX0_reset 16 = .ok (.iconst 0, 1) := by decide +kernel
theorem dX0_reset_17 : decode cX0_reset 17 = .ok (.putfield 21, 3) := by decide +kernel
theorem dX0_reset_20 : decode cX0_reset 20 = .ok (.aload_n 0, 1) := by decide +kernel
theorem dX0_reset_21 : decode cX0_reset 21 = .ok (.iconst 0, 1) := by decide +kernel
theorem dX0_reset_22 : decode cX0_reset 22 = .ok (.putfield 24, 3) := by decide +kernel
theorem dX0_reset_25 : decode cX0_reset 25 = .ok (.aload_n 0, 1) := by decide +kernel
theorem dX0_reset_26 : decode cX0_reset 26 = .ok (.iconst 0, 1) := by decide +kernel
theorem dX0_reset_27 : decode cX0_reset 27 = .ok (.putfield 27, 3) := by decide +kernel
theorem dX0_reset_30 : decode cX0_reset 30 = .ok (.aload_n 0, 1) := by decide +kernel
theorem dX0_reset_31 : decode cX0_reset 31 = .ok (.iconst 0, 1) := by decide +kernel
theorem dX0_reset_32 : decode cX0_reset 32 = .ok (.putfield 30, 3) := by decide +kernel
theorem dX0_reset_35 : decode cX0_reset 35 = .ok (.return_, 1) := by decide +kernel
set_option maxRecDepth 20000 in
theorem ggX0_copyFrom_X2_copyFrom : GoodIn wsX0_copyFrom wsX2_copyFrom := goodIn_r _ [19, 20, 21, 22, 23, 18, 24, 39] (by decide +kernel) (by decide +kernel)
set_option maxRecDepth 20000 in
theorem gX0_copyFrom_X2_copyFrom : GoodIn wsX0_copyFrom (wsV RX0 60 RX2 yX2_copyFrom wsX2_copyFrom) := goodIn_app (goodIn_of _ (by decide +kernel)) ggX0_copyFrom_X2_copyFrom
theorem dX0_copyFrom_0 : decode cX0_copyFrom 0 = .ok (.aload_n 0, 1) := by decide +kernel
theorem dX0_copyFrom_1 : decode cX0_copyFrom 1 = .ok (.aload_n 1, 1) := by decide +kernel
theorem dX0_copyFrom_2 : decode cX0_copyFrom 2 = .ok (.getfield 9, 3) := by decide +kernel
theorem dX0_copyFrom_5 : decode cX0_copyFrom 5 = .ok (.putfield 9, 3) := by decide +kernel
theorem dX0_copyFrom_8 : decode cX0_copyFrom 8 = .ok (.aload_n 0, 1) := by decide +kernel
theorem dX0_copyFrom_9 : decode cX0_copyFrom 9 = .ok (.aload_n 1, 1) := by decide +kernel
theorem dX0_copyFrom_10 : decode cX0_copyFrom 10 = .ok (.getfield 15, 3) := by decide +kernel
theorem dX0_copyFrom_13 : decode cX0_copyFrom 13 = .ok (.putfield 15, 3) := by decide +kernel
theorem dX0_copyFrom_16 : decode cX0_copyFrom 16 = .ok (.aload_n 0, 1) := by decide +kernel
theorem dX0_copyFrom_17 : decode cX0_copyFrom 17 = .ok (.aload_n 1, 1) := by decide +kernel
theorem dX0_copyFrom_18 : decode cX0_copyFrom 18 = .ok (.getfield 18, 3) := by decide +kernel
theorem dX0_copyFrom_21 : decode cX0_copyFrom 21 = .ok (.putfield 18, 3) := by decide +kernel
theorem dX0_copyFrom_24 : decode cX0_copyFrom 24 = .ok (.aload_n 0, 1) := by decide +kernel
theorem dX0_copyFrom_25 : decode cX0_copyFrom 25 = .ok (.aload_n 1, 1) := by decide +kernel
theorem dX0_copyFrom_26 : decode cX0_copyFrom 26 = .ok (.getfield 21, 3) := by decide +kernel
theorem dX0_copyFrom_29 : decode cX0_copyFrom 29 = .ok (.putfield 21, 3) := by decide +kernel
theorem dX0_copyFrom_32 : decode cX0_copyFrom 32 = .ok (.aload_n 0, 1) := by decide +kernel
theorem dX0_copyFrom_33 : decode cX0_copyFrom 33 = .ok (.aload_n 1, 1) := by decide +kernel
theorem dX0_copyFrom_34 : decode cX0_copyFrom 34 = .ok (.getfield 24, 3) := by decide +kernel
theorem dX0_copyFrom_37 : decode cX0_copyFrom 37 = .ok (.putfield 24, 3) := by decide +kernel
theorem dX0_copyFrom_40 : decode cX0_copyFrom 40 = .ok (.aload_n 0, 1) := by decide +kernel
theorem dX0_copyFrom_41 : decode cX0_copyFrom 41 = .ok (.aload_n 1, 1) := by decide +kernel
theorem dX0_copyFrom_42 : decode cX0_copyFrom 42 = .ok (.getfield 27, 3) := by decide +kernel
theorem dX0_copyFrom_45 : decode cX0_copyFrom 45 = .ok (.putfield 27, 3) := by decide +kernel
theorem dX0_copyFrom_48 : decode cX0_copyFrom 48 = .ok (.aload_n 0, 1) := by decide +kernel
theorem dX0_copyFrom_49 : decode cX0_copyFrom 49 = .ok (.aload_n 1, 1) := by decide +kernel
theorem dX0_copyFrom_50 : decode cX0_copyFrom 50 = .ok (.getfield 30, 3) := by decide +kernel
theorem dX0_copyFrom_53 : decode cX0_copyFrom 53 = .ok (.putfield 30, 3) := by decide +kernel
theorem dX0_copyFrom_56 : decode cX0_copyFrom 56 = .ok (.aload_n 0, 1) := by decide +kernel
theorem dX0_copyFrom_57 : decode cX0_copyFrom 57 = .ok (.getfield 38, 3) := by decide +kernel
theorem dX0_copyFrom_60 : decode cX0_copyFrom 60 = .ok (.aload_n 1, 1) := by decide +kernel
theorem dX0_copyFrom_61 : decode cX0_copyFrom 61 = .ok (.getfield 38, 3) := by decide +kernel
theorem dX0_copyFrom_64 : decode cX0_copyFrom 64 = .ok (.invokevirtual 60, 3) := by decide +kernel
theorem dX0_copyFrom_67 : decode cX0_copyFrom 67 = .ok (.aload_n 0, 1) := by decide +kernel
theorem dX0_copyFrom_68 : decode cX0_copyFrom 68 = .ok (.getfield 42, 3) := by decide +kernel
theorem dX0_copyFrom_71 : decode cX0_copyFrom 71 = .ok (.aload_n 1, 1) := by decide +kernel
theorem dX0_copyFrom_72 : decode cX0_copyFrom 72 = .ok (.getfield 42, 3) := by decide +kernel
theorem dX0_copyFrom_75 : decode cX0_copyFrom 75 = .ok (.invokevirtual 60, 3) := by decide +kernel
theorem dX0_copyFrom_78 : decode cX0_copyFrom 78 = .ok (.aload_n 0, 1) := by decide +kernel
theorem dX0_copyFrom_79 : decode cX0_copyFrom 79 = .ok (.getfield 45, 3) := by decide +kernel
theorem dX0_copyFrom_82 : decode cX0_copyFrom 82 = .ok (.aload_n 1, 1) := by decide +kernel
theorem dX0_copyFrom_83 : decode cX0_copyFrom 83 = .ok (.getfield 45, 3) := by decide +kernel
theorem dX0_copyFrom_86 : decode cX0_copyFrom 86 = .ok (.invokevirtual 60, 3) := by decide +kernel
theorem dX0_copyFrom_89 : decode cX0_copyFrom 89 = .ok (.aload_n 0, 1) := by decide +kernel
theorem dX0_copyFrom_90 : decode cX0_copyFrom 90 = .ok (.getfield 48, 3) := by decide +kernel
theorem dX0_copyFrom_93 : decode cX0_copyFrom 93 = .ok (.aload_n 1, 1) := by decide +kernel
theorem dX0_copyFrom_94 : decode cX0_copyFrom 94 = .ok (.getfield 48, 3) := by decide +kernel
theorem dX0_copyFrom_97 : decode cX0_copyFrom 97 = .ok (.invokevirtual 60, 3) := by decide +kernel
theorem dX0_copyFrom_100 : decode cX0_copyFrom 100 = .ok (.aload_n 0, 1) := by decide +kernel
theorem dX0_copyFrom_101 : decode cX0_copyFrom 101 = .ok (.getfield 51, 3) := by decide +kernel
theorem dX0_copyFrom_104 : decode cX0_copyFrom 104 = .ok (.aload_n 1, 1) := by decide +kernel
theorem dX0_copyFrom_105 : decode cX0_copyFrom 105 = .ok (.getfield 51, 3) := by decide +kernel
theorem dX0_copyFrom_108 : decode cX0_copyFrom 108 = .ok (.invokevirtual 60, 3) := by decide +kernel
theorem dX0_copyFrom_111 : decode cX0_copyFrom 111 = .ok (.aload_n 0, 1) := by decide +kernel
theorem dX0_copyFrom_112 : decode cX0_copyFrom 112 = .ok (.getfield 54, 3) := by decide +kernel
theorem dX0_copyFrom_115 : decode cX0_copyFrom 115 = .ok (.aload_n 1, 1) := by decide +kernel
theorem dX0_copyFrom_116 : decode cX0_copyFrom 116 = .ok (.getfield 54, 3) := by decide +kernel
theorem dX0_copyFrom_119 : decode cX0_copyFrom 119 = .ok (.invokevirtual 60, 3) := by decide +kernel
theorem dX0_copyFrom_122 : decode cX0_copyFrom 122 = .ok (.aload_n 0, 1) := by decide +kernel
theorem dX0_copyFrom_123 : decode cX0_copyFrom 123 = .ok (.getfield 57, 3) := by decide +kernel
theorem dX0_copyFrom_126 : decode cX0_copyFrom 126 = .ok (.aload_n 1, 1) := by decide +kernel
theorem dX0_copyFrom_127 : decode cX0_copyFrom 127 = .ok (.getfield 57, 3) := by decide +kernel
theorem dX0_copyFrom_130 : decode cX0_copyFrom 130 = .ok (.invokevirtual 60, 3) := by decide +kernel
theorem dX0_copyFrom_133 : decode cX0_copyFrom 133 = .ok (.return_, 1) := by decide +kernel
set_option maxRecDepth 20000 in
theorem ggX0_has_X5_within : GoodIn wsX0_has wsX5_within := goodIn_r _ [4] (by decide +kernel) (by decide +kernel)
set_option maxRecDepth 20000 in
theorem gX0_has_X5_within_n64 : GoodIn wsX0_has (wsX5_within) := ggX0_has_X5_within
theorem dX0_has_0 : decode cX0_has 0 = .ok (.iload_n 1, 1) := by decide +kernel
theorem dX0_has_1 : decode cX0_has 1 = .ok (.iconst 0, 1) := by decide +kernel
theorem dX0_has_2 : decode cX0_has 2 = .ok (.aload_n 0, 1) := by decide +kernel
theorem dX0_has_3 : decode cX0_has 3 = .ok (.getfield 9, 3) := by decide +kernel
theorem dX0_has_6 : decode cX0_has 6 = .ok (.iconst 1, 1) := by decide +kernel
theorem dX0_has_7 : decode cX0_has 7 = .ok (.isub, 1) := by decide +kernel
theorem dX0_has_8 : decode cX0_has 8 = .ok (.invokestatic 64, 3) := by decide +kernel
theorem dX0_has_11 : decode cX0_has 11 = .ok (.ireturn, 1) := by decide +kernel
theorem dX0_standsOf_0 : decode cX0_standsOf 0 = .ok (.aload_n 0, 1) := by decide +kernel
theorem dX0_standsOf_1 : decode cX0_standsOf 1 = .ok (.getfield 18, 3) := by decide +kernel
theorem dX0_standsOf_4 : decode cX0_standsOf 4 = .ok (.iload_n 1, 1) := by decide +kernel
theorem dX0_standsOf_5 : decode cX0_standsOf 5 = .ok (.ishr, 1) := by decide +kernel
theorem dX0_standsOf_6 : decode cX0_standsOf 6 = .ok (.iconst 1, 1) := by decide +kernel
theorem dX0_standsOf_7 : decode cX0_standsOf 7 = .ok (.iand, 1) := by decide +kernel
theorem dX0_standsOf_8 : decode cX0_standsOf 8 = .ok (.ireturn, 1) := by decide +kernel
theorem dX0_allLocks_0 : decode cX0_allLocks 0 = .ok (.iconst 1, 1) := by decide +kernel
theorem dX0_allLocks_1 : decode cX0_allLocks 1 = .ok (.aload_n 0, 1) := by decide +kernel
theorem dX0_allLocks_2 : decode cX0_allLocks 2 = .ok (.getfield 9, 3) := by decide +kernel
theorem dX0_allLocks_5 : decode cX0_allLocks 5 = .ok (.ishl, 1) := by decide +kernel
theorem dX0_allLocks_6 : decode cX0_allLocks 6 = .ok (.iconst 1, 1) := by decide +kernel
theorem dX0_allLocks_7 : decode cX0_allLocks 7 = .ok (.isub, 1) := by decide +kernel
theorem dX0_allLocks_8 : decode cX0_allLocks 8 = .ok (.ireturn, 1) := by decide +kernel
set_option maxRecDepth 20000 in
theorem ggX0_addLock_X2_put : GoodIn wsX0_addLock wsX2_put := goodIn_r _ [10, 11, 26] (by decide +kernel) (by decide +kernel)
set_option maxRecDepth 20000 in
theorem gX0_addLock_X2_put : GoodIn wsX0_addLock (wsV RX0 68 RX2 yX2_put wsX2_put) := goodIn_app (goodIn_of _ (by decide +kernel)) ggX0_addLock_X2_put
theorem dX0_addLock_0 : decode cX0_addLock 0 = .ok (.aload_n 0, 1) := by decide +kernel
theorem dX0_addLock_1 : decode cX0_addLock 1 = .ok (.getfield 38, 3) := by decide +kernel
theorem dX0_addLock_4 : decode cX0_addLock 4 = .ok (.aload_n 0, 1) := by decide +kernel
theorem dX0_addLock_5 : decode cX0_addLock 5 = .ok (.getfield 9, 3) := by decide +kernel
theorem dX0_addLock_8 : decode cX0_addLock 8 = .ok (.iload_n 1, 1) := by decide +kernel
theorem dX0_addLock_9 : decode cX0_addLock 9 = .ok (.invokevirtual 68, 3) := by decide +kernel
theorem dX0_addLock_12 : decode cX0_addLock 12 = .ok (.aload_n 0, 1) := by decide +kernel
theorem dX0_addLock_13 : decode cX0_addLock 13 = .ok (.getfield 42, 3) := by decide +kernel
theorem dX0_addLock_16 : decode cX0_addLock 16 = .ok (.aload_n 0, 1) := by decide +kernel
theorem dX0_addLock_17 : decode cX0_addLock 17 = .ok (.getfield 9, 3) := by decide +kernel
theorem dX0_addLock_20 : decode cX0_addLock 20 = .ok (.iload_n 3, 1) := by decide +kernel
theorem dX0_addLock_21 : decode cX0_addLock 21 = .ok (.invokevirtual 68, 3) := by decide +kernel
theorem dX0_addLock_24 : decode cX0_addLock 24 = .ok (.aload_n 0, 1) := by decide +kernel
theorem dX0_addLock_25 : decode cX0_addLock 25 = .ok (.aload_n 0, 1) := by decide +kernel
theorem dX0_addLock_26 : decode cX0_addLock 26 = .ok (.getfield 18, 3) := by decide +kernel
theorem dX0_addLock_29 : decode cX0_addLock 29 = .ok (.iload_n 2, 1) := by decide +kernel
theorem dX0_addLock_30 : decode cX0_addLock 30 = .ok (.aload_n 0, 1) := by decide +kernel
theorem dX0_addLock_31 : decode cX0_addLock 31 = .ok (.getfield 9, 3) := by decide +kernel
theorem dX0_addLock_34 : decode cX0_addLock 34 = .ok (.ishl, 1) := by decide +kernel
theorem dX0_addLock_35 : decode cX0_addLock 35 = .ok (.ior, 1) := by decide +kernel
theorem dX0_addLock_36 : decode cX0_addLock 36 = .ok (.putfield 18, 3) := by decide +kernel
theorem dX0_addLock_39 : decode cX0_addLock 39 = .ok (.aload_n 0, 1) := by decide +kernel
theorem dX0_addLock_40 : decode cX0_addLock 40 = .ok (.dup, 1) := by decide +kernel
theorem dX0_addLock_41 : decode cX0_addLock 41 = .ok (.getfield 9, 3) := by decide +kernel
theorem dX0_addLock_44 : decode cX0_addLock 44 = .ok (.iconst 1, 1) := by decide +kernel
theorem dX0_addLock_45 : decode cX0_addLock 45 = .ok (.iadd, 1) := by decide +kernel
theorem dX0_addLock_46 : decode cX0_addLock 46 = .ok (.putfield 9, 3) := by decide +kernel
theorem dX0_addLock_49 : decode cX0_addLock 49 = .ok (.aload_n 0, 1) := by decide +kernel
theorem dX0_addLock_50 : decode cX0_addLock 50 = .ok (.iconst 0, 1) := by decide +kernel
theorem dX0_addLock_51 : decode cX0_addLock 51 = .ok (.putfield 30, 3) := by decide +kernel
theorem dX0_addLock_54 : decode cX0_addLock 54 = .ok (.return_, 1) := by decide +kernel
set_option maxRecDepth 20000 in
theorem ggX0_addReading_X2_put : GoodIn wsX0_addReading wsX2_put := goodIn_r _ [8, 9, 24] (by decide +kernel) (by decide +kernel)
set_option maxRecDepth 20000 in
theorem gX0_addReading_X2_put : GoodIn wsX0_addReading (wsV RX0 68 RX2 yX2_put wsX2_put) := goodIn_app (goodIn_of _ (by decide +kernel)) ggX0_addReading_X2_put
theorem dX0_addReading_0 : decode cX0_addReading 0 = .ok (.aload_n 0, 1) := by decide +kernel
theorem dX0_addReading_1 : decode cX0_addReading 1 = .ok (.getfield 45, 3) := by decide +kernel
theorem dX0_addReading_4 : decode cX0_addReading 4 = .ok (.aload_n 0, 1) := by decide +kernel
theorem dX0_addReading_5 : decode cX0_addReading 5 = .ok (.getfield 27, 3) := by decide +kernel
theorem dX0_addReading_8 : decode cX0_addReading 8 = .ok (.iload_n 1, 1) := by decide +kernel
theorem dX0_addReading_9 : decode cX0_addReading 9 = .ok (.invokevirtual 68, 3) := by decide +kernel
theorem dX0_addReading_12 : decode cX0_addReading 12 = .ok (.aload_n 0, 1) := by decide +kernel
theorem dX0_addReading_13 : decode cX0_addReading 13 = .ok (.getfield 48, 3) := by decide +kernel
theorem dX0_addReading_16 : decode cX0_addReading 16 = .ok (.aload_n 0, 1) := by decide +kernel
theorem dX0_addReading_17 : decode cX0_addReading 17 = .ok (.getfield 27, 3) := by decide +kernel
theorem dX0_addReading_20 : decode cX0_addReading 20 = .ok (.iload_n 2, 1) := by decide +kernel
theorem dX0_addReading_21 : decode cX0_addReading 21 = .ok (.invokevirtual 68, 3) := by decide +kernel
theorem dX0_addReading_24 : decode cX0_addReading 24 = .ok (.aload_n 0, 1) := by decide +kernel
theorem dX0_addReading_25 : decode cX0_addReading 25 = .ok (.dup, 1) := by decide +kernel
theorem dX0_addReading_26 : decode cX0_addReading 26 = .ok (.getfield 27, 3) := by decide +kernel
theorem dX0_addReading_29 : decode cX0_addReading 29 = .ok (.iconst 1, 1) := by decide +kernel
theorem dX0_addReading_30 : decode cX0_addReading 30 = .ok (.iadd, 1) := by decide +kernel
theorem dX0_addReading_31 : decode cX0_addReading 31 = .ok (.putfield 27, 3) := by decide +kernel
theorem dX0_addReading_34 : decode cX0_addReading 34 = .ok (.return_, 1) := by decide +kernel
theorem dX0_lockAt_0 : decode cX0_lockAt 0 = .ok (.iload_n 1, 1) := by decide +kernel
theorem dX0_lockAt_1 : decode cX0_lockAt 1 = .ok (.ifCond .ne 7, 3) := by decide +kernel
theorem dX0_lockAt_4 : decode cX0_lockAt 4 = .ok (.iload_n 2, 1) := by decide +kernel
theorem dX0_lockAt_5 : decode cX0_lockAt 5 = .ok (.goto 11, 3) := by decide +kernel
theorem dX0_lockAt_8 : decode cX0_lockAt 8 = .ok (.aload_n 0, 1) := by decide +kernel
theorem dX0_lockAt_9 : decode cX0_lockAt 9 = .ok (.getfield 9, 3) := by decide +kernel
theorem dX0_lockAt_12 : decode cX0_lockAt 12 = .ok (.iconst 1, 1) := by decide +kernel
theorem dX0_lockAt_13 : decode cX0_lockAt 13 = .ok (.isub, 1) := by decide +kernel
theorem dX0_lockAt_14 : decode cX0_lockAt 14 = .ok (.iload_n 2, 1) := by decide +kernel
theorem dX0_lockAt_15 : decode cX0_lockAt 15 = .ok (.isub, 1) := by decide +kernel
theorem dX0_lockAt_16 : decode cX0_lockAt 16 = .ok (.ireturn, 1) := by decide +kernel
set_option maxRecDepth 20000 in
theorem ggX0_roadBehind_X0_lockAt : GoodIn wsX0_roadBehind wsX0_lockAt := goodIn_r _ [10, 11, 18, 19, 20, 21, 22, 23, 24, 25, 26, 27, 28, 29, 30, 31] (by decide +kernel) (by decide +kernel)
set_option maxRecDepth 20000 in
theorem gX0_roadBehind_X0_lockAt : GoodIn wsX0_roadBehind (wsV RX0 72 RX0 yX0_lockAt wsX0_lockAt) := goodIn_app (goodIn_of _ (by decide +kernel)) ggX0_roadBehind_X0_lockAt
set_option maxRecDepth 20000 in
theorem ggX0_roadBehind_X2_get : GoodIn wsX0_roadBehind wsX2_get := goodIn_r _ [16, 17, 32] (by decide +kernel) (by decide +kernel)
set_option maxRecDepth 20000 in
theorem gX0_roadBehind_X2_get : GoodIn wsX0_roadBehind (wsV RX0 81 RX2 yX2_get wsX2_get) := goodIn_app (goodIn_of _ (by decide +kernel)) ggX0_roadBehind_X2_get
theorem dX0_roadBehind_0 : decode cX0_roadBehind 0 = .ok (.aload_n 0, 1) := by decide +kernel
theorem dX0_roadBehind_1 : decode cX0_roadBehind 1 = .ok (.getfield 42, 3) := by decide +kernel
theorem dX0_roadBehind_4 : decode cX0_roadBehind 4 = .ok (.aload_n 0, 1) := by decide +kernel
theorem dX0_roadBehind_5 : decode cX0_roadBehind 5 = .ok (.iload_n 1, 1) := by decide +kernel
theorem dX0_roadBehind_6 : decode cX0_roadBehind 6 = .ok (.iload_n 2, 1) := by decide +kernel
theorem dX0_roadBehind_7 : decode cX0_roadBehind 7 = .ok (.invokevirtual 72, 3) := by decide +kernel
theorem dX0_roadBehind_10 : decode cX0_roadBehind 10 = .ok (.aload_n 0, 1) := by decide +kernel
theorem dX0_roadBehind_11 : decode cX0_roadBehind 11 = .ok (.iload_n 1, 1) := by decide +kernel
theorem dX0_roadBehind_12 : decode cX0_roadBehind 12 = .ok (.iload_n 2, 1) := by decide +kernel
theorem dX0_roadBehind_13 : decode cX0_roadBehind 13 = .ok (.iconst 1, 1) := by decide +kernel
theorem dX0_roadBehind_14 : decode cX0_roadBehind 14 = .ok (.iadd, 1) := by decide +kernel
theorem dX0_roadBehind_15 : decode cX0_roadBehind 15 = .ok (.invokevirtual 72, 3) := by decide +kernel
theorem dX0_roadBehind_18 : decode cX0_roadBehind 18 = .ok (.invokestatic 76, 3) := by decide +kernel
theorem dX0_roadBehind_21 : decode cX0_roadBehind 21 = .ok (.invokevirtual 81, 3) := by decide +kernel
theorem dX0_roadBehind_24 : decode cX0_roadBehind 24 = .ok (.ireturn, 1) := by decide +kernel
set_option maxRecDepth 20000 in
theorem ggX0_locksFrom_X0_lockAt : GoodIn wsX0_locksFrom wsX0_lockAt := goodIn_r _ [6, 1, 7, 8, 9, 10, 11, 12, 13, 14, 15, 16, 17, 18, 19, 20] (by decide +kernel) (by decide +kernel)
set_option maxRecDepth 20000 in
theorem gX0_locksFrom_X0_lockAt : GoodIn wsX0_locksFrom (wsV RX0 72 RX0 yX0_lockAt wsX0_lockAt) := goodIn_app (goodIn_of _ (by decide +kernel)) ggX0_locksFrom_X0_lockAt
theorem dX0_locksFrom_0 : decode cX0_locksFrom 0 = .ok (.iconst 0, 1) := by decide +kernel
theorem dX0_locksFrom_1 : decode cX0_locksFrom 1 = .ok (.istore_n 3, 1) := by decide +kernel
theorem dX0_locksFrom_2 : decode cX0_locksFrom 2 = .ok (.iload_n 2, 1) := by decide +kernel
theorem dX0_locksFrom_3 : decode cX0_locksFrom 3 = .ok (.istore 4, 2) := by decide +kernel
theorem dX0_locksFrom_5 : decode cX0_locksFrom 5 = .ok (.iload 4, 2) := by decide +kernel
theorem dX0_locksFrom_7 : decode cX0_locksFrom 7 = .ok (.aload_n 0, 1) := by decide +kernel
theorem dX0_locksFrom_8 : decode cX0_locksFrom 8 = .ok (.getfield 9, 3) := by decide +kernel
theorem dX0_locksFrom_11 : decode cX0_locksFrom 11 = .ok (.if_icmp .ge 21, 3) := by decide +kernel
theorem dX0_locksFrom_14 : decode cX0_locksFrom 14 = .ok (.iload_n 3, 1) := by decide +kernel
theorem dX0_locksFrom_15 : decode cX0_locksFrom 15 = .ok (.iconst 1, 1) := by decide +kernel
theorem dX0_locksFrom_16 : decode cX0_locksFrom 16 = .ok (.aload_n 0, 1) := by decide +kernel
theorem dX0_locksFrom_17 : decode cX0_locksFrom 17 = .ok (.iload_n 1, 1) := by decide +kernel
theorem dX0_locksFrom_18 : decode cX0_locksFrom 18 = .ok (.iload 4, 2) := by decide +kernel
theorem dX0_locksFrom_20 : decode cX0_locksFrom 20 = .ok (.invokevirtual 72, 3) := by decide +kernel
theorem dX0_locksFrom_23 : decode cX0_locksFrom 23 = .ok (.ishl, 1) := by decide +kernel
theorem dX0_locksFrom_24 : decode cX0_locksFrom 24 = .ok (.ior, 1) := by decide +kernel
theorem dX0_locksFrom_25 : decode cX0_locksFrom 25 = .ok (.istore_n 3, 1) := by decide +kernel
theorem dX0_locksFrom_26 : decode cX0_locksFrom 26 = .ok (.iinc 4 1, 3) := by decide +kernel
theorem dX0_locksFrom_29 : decode cX0_locksFrom 29 = .ok (.goto (-24), 3) := by decide +kernel
theorem dX0_locksFrom_32 : decode cX0_locksFrom 32 = .ok (.iload_n 3, 1) := by decide +kernel
theorem dX0_locksFrom_33 : decode cX0_locksFrom 33 = .ok (.ireturn, 1) := by decide +kernel
set_option maxRecDepth 20000 in
theorem ggX0_remember_X2_dropFirst : GoodIn wsX0_remember wsX2_dropFirst := goodIn_r _ [12, 13, 32] (by decide +kernel) (by decide +kernel)
set_option maxRecDepth 20000 in
theorem gX0_remember_X2_dropFirst : GoodIn wsX0_remember (wsV RX0 85 RX2 yX2_dropFirst wsX2_dropFirst) := goodIn_app (goodIn_of _ (by decide +kernel)) ggX0_remember_X2_dropFirst
set_option maxRecDepth 20000 in
theorem ggX0_remember_X2_put : GoodIn wsX0_remember wsX2_put := goodIn_r _ [17, 13, 32] (by decide +kernel) (by decide +kernel)
set_option maxRecDepth 20000 in
theorem gX0_remember_X2_put : GoodIn wsX0_remember (wsV RX0 68 RX2 yX2_put wsX2_put) := goodIn_app (goodIn_of _ (by decide +kernel)) ggX0_remember_X2_put
theorem dX0_remember_0 : decode cX0_remember 0 = .ok (.aload_n 0, 1) := by decide +kernel
theorem dX0_remember_1 : decode cX0_remember 1 = .ok (.getfield 30, 3) := by decide +kernel
theorem dX0_remember_4 : decode cX0_remember 4 = .ok (.bipush 8, 2) := by decide +kernel
theorem dX0_remember_6 : decode cX0_remember 6 = .ok (.if_icmp .lt 30, 3) := by decide +kernel
theorem dX0_remember_9 : decode cX0_remember 9 = .ok (.aload_n 0, 1) := by decide +kernel
theorem dX0_remember_10 : decode cX0_remember 10 = .ok (.getfield 51, 3) := by decide +kernel
theorem dX0_remember_13 : decode cX0_remember 13 = .ok (.invokevirtual 85, 3) := by decide +kernel
theorem dX0_remember_16 : decode cX0_remember 16 = .ok (.aload_n 0, 1) := by decide +kernel
theorem dX0_remember_17 : decode cX0_remember 17 = .ok (.getfield 54, 3) := by decide +kernel
theorem dX0_remember_20 : decode cX0_remember 20 = .ok (.invokevirtual 85, 3) := by decide +kernel
theorem dX0_remember_23 : decode cX0_remember 23 = .ok (.aload_n 0, 1) := by decide +kernel
theorem dX0_remember_24 : decode cX0_remember 24 = .ok (.getfield 57, 3) := by decide +kernel
theorem dX0_remember_27 : decode cX0_remember 27 = .ok (.invokevirtual 85, 3) := by decide +kernel
theorem dX0_remember_30 : decode cX0_remember 30 = .ok (.aload_n 0, 1) := by decide +kernel
theorem dX0_remember_31 : decode cX0_remember 31 = .ok (.bipush 7, 2) := by decide +kernel
theorem dX0_remember_33 : decode cX0_remember 33 = .ok (.putfield 30, 3) := by decide +kernel
theorem dX0_remember_36 : decode cX0_remember 36 = .ok (.aload_n 0, 1) := by decide +kernel
theorem dX0_remember_37 : decode cX0_remember 37 = .ok (.getfield 51, 3) := by decide +kernel
theorem dX0_remember_40 : decode cX0_remember 40 = .ok (.aload_n 0, 1) := by decide +kernel
theorem dX0_remember_41 : decode cX0_remember 41 = .ok (.getfield 30, 3) := by decide +kernel
theorem dX0_remember_44 : decode cX0_remember 44 = .ok (.aload_n 0, 1) := by decide +kernel
theorem dX0_remember_45 : decode cX0_remember 45 = .ok (.getfield 18, 3) := by decide +kernel
theorem dX0_remember_48 : decode cX0_remember 48 = .ok (.invokevirtual 68, 3) := by decide +kernel
theorem dX0_remember_51 : decode cX0_remember 51 = .ok (.aload_n 0, 1) := by decide +kernel
theorem dX0_remember_52 : decode cX0_remember 52 = .ok (.getfield 54, 3) := by decide +kernel
theorem dX0_remember_55 : decode cX0_remember 55 = .ok (.aload_n 0, 1) := by decide +kernel
theorem dX0_remember_56 : decode cX0_remember 56 = .ok (.getfield 30, 3) := by decide +kernel
theorem dX0_remember_59 : decode cX0_remember 59 = .ok (.aload_n 0, 1) := by decide +kernel
theorem dX0_remember_60 : decode cX0_remember 60 = .ok (.getfield 21, 3) := by decide +kernel
theorem dX0_remember_63 : decode cX0_remember 63 = .ok (.invokevirtual 68, 3) := by decide +kernel
theorem dX0_remember_66 : decode cX0_remember 66 = .ok (.aload_n 0, 1) := by decide +kernel
theorem dX0_remember_67 : decode cX0_remember 67 = .ok (.getfield 57, 3) := by decide +kernel
theorem dX0_remember_70 : decode cX0_remember 70 = .ok (.aload_n 0, 1) := by decide +kernel
theorem dX0_remember_71 : decode cX0_remember 71 = .ok (.getfield 30, 3) := by decide +kernel
theorem dX0_remember_74 : decode cX0_remember 74 = .ok (.aload_n 0, 1) := by decide +kernel
theorem dX0_remember_75 : decode cX0_remember 75 = .ok (.getfield 24, 3) := by decide +kernel
theorem dX0_remember_78 : decode cX0_remember 78 = .ok (.invokevirtual 68, 3) := by decide +kernel
theorem dX0_remember_81 : decode cX0_remember 81 = .ok (.aload_n 0, 1) := by decide +kernel
theorem dX0_remember_82 : decode cX0_remember 82 = .ok (.dup, 1) := by decide +kernel
theorem dX0_remember_83 : decode cX0_remember 83 = .ok (.getfield 30, 3) := by decide +kernel
theorem dX0_remember_86 : decode cX0_remember 86 = .ok (.iconst 1, 1) := by decide +kernel
theorem dX0_remember_87 : decode cX0_remember 87 = .ok (.iadd, 1) := by decide +kernel
theorem dX0_remember_88 : decode cX0_remember 88 = .ok (.putfield 30, 3) := by decide +kernel
theorem dX0_remember_91 : decode cX0_remember 91 = .ok (.return_, 1) := by decide +kernel
set_option maxRecDepth 20000 in
theorem ggX0_goBack_X2_get : GoodIn wsX0_goBack wsX2_get := goodIn_r _ [12, 13, 28] (by decide +kernel) (by decide +kernel)
set_option maxRecDepth 20000 in
theorem gX0_goBack_X2_get : GoodIn wsX0_goBack (wsV RX0 81 RX2 yX2_get wsX2_get) := goodIn_app (goodIn_of _ (by decide +kernel)) ggX0_goBack_X2_get
theorem dX0_goBack_0 : decode cX0_goBack 0 = .ok (.aload_n 0, 1) := by decide +kernel
theorem dX0_goBack_1 : decode cX0_goBack 1 = .ok (.dup, 1) := by decide +kernel
theorem dX0_goBack_2 : decode cX0_goBack 2 = .ok (.getfield 30, 3) := by decide +kernel
theorem dX0_goBack_5 : decode cX0_goBack 5 = .ok (.iconst 1, 1) := by decide +kernel
theorem dX0_goBack_6 : decode cX0_goBack 6 = .ok (.isub, 1) := by decide +kernel
theorem dX0_goBack_7 : decode cX0_goBack 7 = .ok (.putfield 30, 3) := by decide +kernel
theorem dX0_goBack_10 : decode cX0_goBack 10 = .ok (.aload_n 0, 1) := by decide +kernel
theorem dX0_goBack_11 : decode cX0_goBack 11 = .ok (.aload_n 0, 1) := by decide +kernel
theorem dX0_goBack_12 : decode cX0_goBack 12 = .ok (.getfield 51, 3) := by decide +kernel
theorem dX0_goBack_15 : decode cX0_goBack 15 = .ok (.aload_n 0, 1) := by decide +kernel
theorem dX0_goBack_16 : decode cX0_goBack 16 = .ok (.getfield 30, 3) := by decide +kernel
theorem dX0_goBack_19 : decode cX0_goBack 19 = .ok (.invokevirtual 81, 3) := by decide +kernel
theorem dX0_goBack_22 : decode cX0_goBack 22 = .ok (.putfield 18, 3) := by decide +kernel
theorem dX0_goBack_25 : decode cX0_goBack 25 = .ok (.aload_n 0, 1) := by decide +kernel
theorem dX0_goBack_26 : decode cX0_goBack 26 = .ok (.aload_n 0, 1) := by decide +kernel
theorem dX0_goBack_27 : decode cX0_goBack 27 = .ok (.getfield 54, 3) := by decide +kernel
theorem dX0_goBack_30 : decode cX0_goBack 30 = .ok (.aload_n 0, 1) := by decide +kernel
theorem dX0_goBack_31 : decode cX0_goBack 31 = .ok (.getfield 30, 3) := by decide +kernel
theorem dX0_goBack_34 : decode cX0_goBack 34 = .ok (.invokevirtual 81, 3) := by decide +kernel
theorem dX0_goBack_37 : decode cX0_goBack 37 = .ok (.putfield 21, 3) := by decide +kernel
theorem dX0_goBack_40 : decode cX0_goBack 40 = .ok (.aload_n 0, 1) := by decide +kernel
theorem dX0_goBack_41 : decode cX0_goBack 41 = .ok (.aload_n 0, 1) := by decide +kernel
theorem dX0_goBack_42 : decode cX0_goBack 42 = .ok (.getfield 57, 3) := by decide +kernel
theorem dX0_goBack_45 : decode cX0_goBack 45 = .ok (.aload_n 0, 1) := by decide +kernel
theorem dX0_goBack_46 : decode cX0_goBack 46 = .ok (.getfield 30, 3) := by decide +kernel
theorem dX0_goBack_49 : decode cX0_goBack 49 = .ok (.invokevirtual 81, 3) := by decide +kernel
theorem dX0_goBack_52 : decode cX0_goBack 52 = .ok (.putfield 24, 3) := by decide +kernel
theorem dX0_goBack_55 : decode cX0_goBack 55 = .ok (.return_, 1) := by decide +kernel
theorem dX1_readyMinutes_0 : decode cX1_readyMinutes 0 = .ok (.iload_n 0, 1) := by decide +kernel
theorem dX1_readyMinutes_1 : decode cX1_readyMinutes 1 = .ok (.tableswitch 52 1 5 #[35, 52, 35, 47, 50], 35) := by decide +kernel
theorem dX1_readyMinutes_36 : decode cX1_readyMinutes 36 = .ok (.iload_n 1, 1) := by decide +kernel
theorem dX1_readyMinutes_37 : decode cX1_readyMinutes 37 = .ok (.iconst 5, 1) := by decide +kernel
theorem dX1_readyMinutes_38 : decode cX1_readyMinutes 38 = .ok (.if_icmp .ge 8, 3) := by decide +kernel
theorem dX1_readyMinutes_41 : decode cX1_readyMinutes 41 = .ok (.bipush 8, 2) := by decide +kernel
theorem dX1_readyMinutes_43 : decode cX1_readyMinutes 43 = .ok (.goto 4, 3) := by decide +kernel
theorem dX1_readyMinutes_46 : decode cX1_readyMinutes 46 = .ok (.iconst 4, 1) := by decide +kernel
theorem dX1_readyMinutes_47 : decode cX1_readyMinutes 47 = .ok (.ireturn, 1) := by decide +kernel
theorem dX1_readyMinutes_48 : decode cX1_readyMinutes 48 = .ok (.bipush 6, 2) := by decide +kernel
theorem dX1_readyMinutes_50 : decode cX1_readyMinutes 50 = .ok (.ireturn, 1) := by decide +kernel
theorem dX1_readyMinutes_51 : decode cX1_readyMinutes 51 = .ok (.iconst 3, 1) := by decide +kernel
theorem dX1_readyMinutes_52 : decode cX1_readyMinutes 52 = .ok (.ireturn, 1) := by decide +kernel
theorem dX1_readyMinutes_53 : decode cX1_readyMinutes 53 = .ok (.iconst 4, 1) := by decide +kernel
theorem dX1_readyMinutes_54 : decode cX1_readyMinutes 54 = .ok (.ireturn, 1) := by decide +kernel
theorem dX1_passedMinutes_0 : decode cX1_passedMinutes 0 = .ok (.bipush 8, 2) := by decide +kernel
theorem dX1_passedMinutes_2 : decode cX1_passedMinutes 2 = .ok (.istore_n 2, 1) := by decide +kernel
theorem dX1_passedMinutes_3 : decode cX1_passedMinutes 3 = .ok (.iload_n 0, 1) := by decide +kernel
theorem dX1_passedMinutes_4 : decode cX1_passedMinutes 4 = .ok (.tableswitch 50 1 4 #[32, 50, 34, 47], 32) := by decide +kernel
theorem dX1_passedMinutes_36 : decode cX1_passedMinutes 36 = .ok (.iload_n 2, 1) := by decide +kernel
theorem dX1_passedMinutes_37 : decode cX1_passedMinutes 37 = .ok (.ireturn, 1) := by decide +kernel
theorem dX1_passedMinutes_38 : decode cX1_passedMinutes 38 = .ok (.iload_n 1, 1) := by decide +kernel
theorem dX1_passedMinutes_39 : decode cX1_passedMinutes 39 = .ok (.iconst 5, 1) := by decide +kernel
theorem dX1_passedMinutes_40 : decode cX1_passedMinutes 40 = .ok (.if_icmp .ge 9, 3) := by decide +kernel
theorem dX1_passedMinutes_43 : decode cX1_passedMinutes 43 = .ok (.iload_n 2, 1) := by decide +kernel
theorem dX1_passedMinutes_44 : decode cX1_passedMinutes 44 = .ok (.iconst 1, 1) := by decide +kernel
theorem dX1_passedMinutes_45 : decode cX1_passedMinutes 45 = .ok (.iadd, 1) := by decide +kernel
theorem dX1_passedMinutes_46 : decode cX1_passedMinutes 46 = .ok (.goto 4, 3) := by decide +kernel
theorem dX1_passedMinutes_49 : decode cX1_passedMinutes 49 = .ok (.iload_n 2, 1) := by decide +kernel
theorem dX1_passedMinutes_50 : decode cX1_passedMinutes 50 = .ok (.ireturn, 1) := by decide +kernel
theorem dX1_passedMinutes_51 : decode cX1_passedMinutes 51 = .ok (.bipush 9, 2) := by decide +kernel
theorem dX1_passedMinutes_53 : decode cX1_passedMinutes 53 = .ok (.ireturn, 1) := by decide +kernel
theorem dX1_passedMinutes_54 : decode cX1_passedMinutes 54 = .ok (.bipush 6, 2) := by decide +kernel
theorem dX1_passedMinutes_56 : decode cX1_passedMinutes 56 = .ok (.ireturn, 1) := by decide +kernel
theorem dX1_staysMinutes_0 : decode cX1_staysMinutes 0 = .ok (.iload_n 0, 1) := by decide +kernel
theorem dX1_staysMinutes_1 : decode cX1_staysMinutes 1 = .ok (.tableswitch 40 2 5 #[31, 34, 40, 37], 31) := by decide +kernel
theorem dX1_staysMinutes_32 : decode cX1_staysMinutes 32 = .ok (.bipush 30, 2) := by decide +kernel
theorem dX1_staysMinutes_34 : decode cX1_staysMinutes 34 = .ok (.ireturn, 1) := by decide +kernel
theorem dX1_staysMinutes_35 : decode cX1_staysMinutes 35 = .ok (.bipush 20, 2) := by decide +kernel
theorem dX1_staysMinutes_37 : decode cX1_staysMinutes 37 = .ok (.ireturn, 1) := by decide +kernel
theorem dX1_staysMinutes_38 : decode cX1_staysMinutes 38 = .ok (.bipush 60, 2) := by decide +kernel
theorem dX1_staysMinutes_40 : decode cX1_staysMinutes 40 = .ok (.ireturn, 1) := by decide +kernel
theorem dX1_staysMinutes_41 : decode cX1_staysMinutes 41 = .ok (.iconst 0, 1) := by decide +kernel
theorem dX1_staysMinutes_42 : decode cX1_staysMinutes 42 = .ok (.ireturn, 1) := by decide +kernel
theorem dX2_init_0 : decode cX2_init 0 = .ok (.aload_n 0, 1) := by decide +kernel
theorem dX2_init_1 : decode cX2_init 1 = .ok (.invokespecial 1, 3) := by decide +kernel
theorem dX2_init_4 : decode cX2_init 4 = .ok (.aload_n 0, 1) := by decide +kernel
theorem dX2_init_5 : decode cX2_init 5 = .ok (.iconst 0, 1) := by decide +kernel
theorem dX2_init_6 : decode cX2_init 6 = .ok (.iload_n 1, 1) := by decide +kernel
theorem dX2_init_7 : decode cX2_init 7 = .ok (.invokestatic 7, 3) := by decide +kernel
theorem dX2_init_10 : decode cX2_init 10 = .ok (.newarray .int, 2) := by decide +kernel
theorem dX2_init_12 : decode cX2_init 12 = .ok (.putfield 13, 3) := by decide +kernel
theorem dX2_init_15 : decode cX2_init 15 = .ok (.return_, 1) := by decide +kernel
theorem dX2_get_0 : decode cX2_get 0 = .ok (.iload_n 1, 1) := by decide +kernel
theorem dX2_get_1 : decode cX2_get 1 = .ok (.ifCond .lt 21, 3) := by decide +kernel
theorem dX2_get_4 : decode cX2_get 4 = .ok (.iload_n 1, 1) := by decide +kernel
theorem dX2_get_5 : decode cX2_get 5 = .ok (.aload_n 0, 1) := by decide +kernel
theorem dX2_get_6 : decode cX2_get 6 = .ok (.getfield 13, 3) := by decide +kernel
theorem dX2_get_9 : decode cX2_get 9 = .ok (.arraylength, 1) := by decide +kernel
theorem dX2_get_10 : decode cX2_get 10 = .ok (.if_icmp .ge 12, 3) := by decide +kernel
theorem dX2_get_13 : decode cX2_get 13 = .ok (.aload_n 0, 1) := by decide +kernel
theorem dX2_get_14 : decode cX2_get 14 = .ok (.getfield 13, 3) := by decide +kernel
theorem dX2_get_17 : decode cX2_get 17 = .ok (.iload_n 1, 1) := by decide +kernel
theorem dX2_get_18 : decode cX2_get 18 = .ok (.iaload, 1) := by decide +kernel
theorem dX2_get_19 : decode cX2_get 19 = .ok (.goto 4, 3) := by decide +kernel
theorem dX2_get_22 : decode cX2_get 22 = .ok (.iconst 0, 1) := by decide +kernel
theorem dX2_get_23 : decode cX2_get 23 = .ok (.ireturn, 1) := by decide +kernel
theorem dX2_put_0 : decode cX2_put 0 = .ok (.iload_n 1, 1) := by decide +kernel
theorem dX2_put_1 : decode cX2_put 1 = .ok (.ifCond .lt 19, 3) := by decide +kernel
theorem dX2_put_4 : decode cX2_put 4 = .ok (.iload_n 1, 1) := by decide +kernel
theorem dX2_put_5 : decode cX2_put 5 = .ok (.aload_n 0, 1) := by decide +kernel
theorem dX2_put_6 : decode cX2_put 6 = .ok (.getfield 13, 3) := by decide +kernel
theorem dX2_put_9 : decode cX2_put 9 = .ok (.arraylength, 1) := by decide +kernel
theorem dX2_put_10 : decode cX2_put 10 = .ok (.if_icmp .ge 10, 3) := by decide +kernel
theorem dX2_put_13 : decode cX2_put 13 = .ok (.aload_n 0, 1) := by decide +kernel
theorem dX2_put_14 : decode cX2_put 14 = .ok (.getfield 13, 3) := by decide +kernel
theorem dX2_put_17 : decode cX2_put 17 = .ok (.iload_n 1, 1) := by decide +kernel
theorem dX2_put_18 : decode cX2_put 18 = .ok (.iload_n 2, 1) := by decide +kernel
theorem dX2_put_19 : decode cX2_put 19 = .ok (.iastore, 1) := by decide +kernel
theorem dX2_put_20 : decode cX2_put 20 = .ok (.return_, 1) := by decide +kernel
set_option maxRecDepth 20000 in
theorem ggX2_copyFrom_X2_get : GoodIn wsX2_copyFrom wsX2_get := goodIn_r _ [6, 1, 7] (by decide +kernel) (by decide +kernel)
set_option maxRecDepth 20000 in
theorem gX2_copyFrom_X2_get : GoodIn wsX2_copyFrom (wsV RX2 19 RX2 yX2_get wsX2_get) := goodIn_app (goodIn_of _ (by decide +kernel)) ggX2_copyFrom_X2_get
theorem dX2_copyFrom_0 : decode cX2_copyFrom 0 = .ok (.iconst 0, 1) := by decide +kernel
theorem dX2_copyFrom_1 : decode cX2_copyFrom 1 = .ok (.istore_n 2, 1) := by decide +kernel
theorem dX2_copyFrom_2 : decode cX2_copyFrom 2 = .ok (.iload_n 2, 1) := by decide +kernel
theorem dX2_copyFrom_3 : decode cX2_copyFrom 3 = .ok (.aload_n 0, 1) := by decide +kernel
theorem dX2_copyFrom_4 : decode cX2_copyFrom 4 = .ok (.getfield 13, 3) := by decide +kernel
theorem dX2_copyFrom_7 : decode cX2_copyFrom 7 = .ok (.arraylength, 1) := by decide +kernel
theorem dX2_copyFrom_8 : decode cX2_copyFrom 8 = .ok (.if_icmp .ge 20, 3) := by decide +kernel
theorem dX2_copyFrom_11 : decode cX2_copyFrom 11 = .ok (.aload_n 0, 1) := by decide +kernel
theorem dX2_copyFrom_12 : decode cX2_copyFrom 12 = .ok (.getfield 13, 3) := by decide +kernel
theorem dX2_copyFrom_15 : decode cX2_copyFrom 15 = .ok (.iload_n 2, 1) := by decide +kernel
theorem dX2_copyFrom_16 : decode cX2_copyFrom 16 = .ok (.aload_n 1, 1) := by decide +kernel
theorem dX2_copyFrom_17 : decode cX2_copyFrom 17 = .ok (.iload_n 2, 1) := by decide +kernel
theorem dX2_copyFrom_18 : decode cX2_copyFrom 18 = .ok (.invokevirtual 19, 3) := by decide +kernel
theorem dX2_copyFrom_21 : decode cX2_copyFrom 21 = .ok (.iastore, 1) := by decide +kernel
theorem dX2_copyFrom_22 : decode cX2_copyFrom 22 = .ok (.iinc 2 1, 3) := by decide +kernel
theorem dX2_copyFrom_25 : decode cX2_copyFrom 25 = .ok (.goto (-23), 3) := by decide +kernel
theorem dX2_copyFrom_28 : decode cX2_copyFrom 28 = .ok (.return_, 1) := by decide +kernel
theorem dX2_dropFirst_0 : decode cX2_dropFirst 0 = .ok (.iconst 0, 1) := by decide +kernel
theorem dX2_dropFirst_1 : decode cX2_dropFirst 1 = .ok (.istore_n 1, 1) := by decide +kernel
theorem dX2_dropFirst_2 : decode cX2_dropFirst 2 = .ok (.iload_n 1, 1) := by decide +kernel
theorem dX2_dropFirst_3 : decode cX2_dropFirst 3 = .ok (.aload_n 0, 1) := by decide +kernel
theorem dX2_dropFirst_4 : decode cX2_dropFirst 4 = .ok (.getfield 13, 3) := by decide +kernel
theorem dX2_dropFirst_7 : decode cX2_dropFirst 7 = .ok (.arraylength, 1) := by decide +kernel
theorem dX2_dropFirst_8 : decode cX2_dropFirst 8 = .ok (.iconst 1, 1) := by decide +kernel
theorem dX2_dropFirst_9 : decode cX2_dropFirst 9 = .ok (.isub, 1) := by decide +kernel
theorem dX2_dropFirst_10 : decode cX2_dropFirst 10 = .ok (.if_icmp .ge 23, 3) := by decide +kernel
theorem dX2_dropFirst_13 : decode cX2_dropFirst 13 = .ok (.aload_n 0, 1) := by decide +kernel
theorem dX2_dropFirst_14 : decode cX2_dropFirst 14 = .ok (.getfield 13, 3) := by decide +kernel
theorem dX2_dropFirst_17 : decode cX2_dropFirst 17 = .ok (.iload_n 1, 1) := by decide +kernel
theorem dX2_dropFirst_18 : decode cX2_dropFirst 18 = .ok (.aload_n 0, 1) := by decide +kernel
theorem dX2_dropFirst_19 : decode cX2_dropFirst 19 = .ok (.getfield 13, 3) := by decide +kernel
theorem dX2_dropFirst_22 : decode cX2_dropFirst 22 = .ok (.iload_n 1, 1) := by decide +kernel
theorem dX2_dropFirst_23 : decode cX2_dropFirst 23 = .ok (.iconst 1, 1) := by decide +kernel
theorem dX2_dropFirst_24 : decode cX2_dropFirst 24 = .ok (.iadd, 1) := by decide +kernel
theorem dX2_dropFirst_25 : decode cX2_dropFirst 25 = .ok (.iaload, 1) := by decide +kernel
theorem dX2_dropFirst_26 : decode cX2_dropFirst 26 = .ok (.iastore, 1) := by decide +kernel
theorem dX2_dropFirst_27 : decode cX2_dropFirst 27 = .ok (.iinc 1 1, 3) := by decide +kernel
theorem dX2_dropFirst_30 : decode cX2_dropFirst 30 = .ok (.goto (-28), 3) := by decide +kernel
theorem dX2_dropFirst_33 : decode cX2_dropFirst 33 = .ok (.return_, 1) := by decide +kernel
set_option maxRecDepth 20000 in
theorem ggX3_init_X2_init : GoodIn wsX3_init wsX2_init := goodIn_r _ [14, 15, 2, 3, 16, 17, 18, 19, 20, 21, 27] (by decide +kernel) (by decide +kernel)
set_option maxRecDepth 20000 in
theorem gX3_init_X2_init : GoodIn wsX3_init (wsX2_init) := ggX3_init_X2_init
theorem dX3_init_0 : decode cX3_init 0 = .ok (.aload_n 0, 1) := by decide +kernel
theorem dX3_init_1 : decode cX3_init 1 = .ok (.invokespecial 3, 3) := by decide +kernel
theorem dX3_init_4 : decode cX3_init 4 = .ok (.aload_n 0, 1) := by decide +kernel
theorem dX3_init_5 : decode cX3_init 5 = .ok (.iconst 0, 1) := by decide +kernel
theorem dX3_init_6 : decode cX3_init 6 = .ok (.putfield 9, 3) := by decide +kernel
theorem dX3_init_9 : decode cX3_init 9 = .ok (.aload_n 0, 1) := by decide +kernel
theorem dX3_init_10 : decode cX3_init 10 = .ok (.new 15, 3) := by decide +kernel
theorem dX3_init_13 : decode cX3_init 13 = .ok (.dup, 1) := by decide +kernel
theorem dX3_init_14 : decode cX3_init 14 = .ok (.sipush 150, 3) := by decide +kernel
theorem dX3_init_17 : decode cX3_init 17 = .ok (.invokespecial 17, 3) := by decide +kernel
theorem dX3_init_20 : decode cX3_init 20 = .ok (.putfield 20, 3) := by decide +kernel
theorem dX3_init_23 : decode cX3_init 23 = .ok (.aload_n 0, 1) := by decide +kernel
theorem dX3_init_24 : decode cX3_init 24 = .ok (.iconst 0, 1) := by decide +kernel
theorem dX3_init_25 : decode cX3_init 25 = .ok (.putfield 24, 3) := by decide +kernel
theorem dX3_init_28 : decode cX3_init 28 = .ok (.aload_n 0, 1) := by decide +kernel
theorem dX3_init_29 : decode cX3_init 29 = .ok (.iconst 0, 1) := by decide +kernel
theorem dX3_init_30 : decode cX3_init 30 = .ok (.putfield 27, 3) := by decide +kernel
theorem dX3_init_33 : decode cX3_init 33 = .ok (.aload_n 0, 1) := by decide +kernel
theorem dX3_init_34 : decode cX3_init 34 = .ok (.iconst 0, 1) := by decide +kernel
theorem dX3_init_35 : decode cX3_init 35 = .ok (.putfield 30, 3) := by decide +kernel
theorem dX3_init_38 : decode cX3_init 38 = .ok (.return_, 1) := by decide +kernel
set_option maxRecDepth 20000 in
theorem ggX3_append_X2_put : GoodIn wsX3_append wsX2_put := goodIn_r _ [7, 8, 14] (by decide +kernel) (by decide +kernel)
set_option maxRecDepth 20000 in
theorem gX3_append_X2_put : GoodIn wsX3_append (wsV RX3 33 RX2 yX2_put wsX2_put) := goodIn_app (goodIn_of _ (by decide +kernel)) ggX3_append_X2_put
theorem dX3_append_0 : decode cX3_append 0 = .ok (.aload_n 0, 1) := by decide +kernel
theorem dX3_append_1 : decode cX3_append 1 = .ok (.getfield 20, 3) := by decide +kernel
theorem dX3_append_4 : decode cX3_append 4 = .ok (.aload_n 0, 1) := by decide +kernel
theorem dX3_append_5 : decode cX3_append 5 = .ok (.getfield 9, 3) := by decide +kernel
theorem dX3_append_8 : decode cX3_append 8 = .ok (.iload_n 1, 1) := by decide +kernel
theorem dX3_append_9 : decode cX3_append 9 = .ok (.invokevirtual 33, 3) := by decide +kernel
theorem dX3_append_12 : decode cX3_append 12 = .ok (.aload_n 0, 1) := by decide +kernel
theorem dX3_append_13 : decode cX3_append 13 = .ok (.dup, 1) := by decide +kernel
theorem dX3_append_14 : decode cX3_append 14 = .ok (.getfield 9, 3) := by decide +kernel
theorem dX3_append_17 : decode cX3_append 17 = .ok (.iconst 1, 1) := by decide +kernel
theorem dX3_append_18 : decode cX3_append 18 = .ok (.iadd, 1) := by decide +kernel
theorem dX3_append_19 : decode cX3_append 19 = .ok (.putfield 9, 3) := by decide +kernel
theorem dX3_append_22 : decode cX3_append 22 = .ok (.return_, 1) := by decide +kernel
set_option maxRecDepth 20000 in
theorem ggX3_faultInto_X3_behindBlanks : GoodIn wsX3_faultInto wsX3_behindBlanks := goodIn_r _ [6, 1, 7, 8, 9, 10, 11, 12, 13, 116, 117, 118, 119, 120, 121] (by decide +kernel) (by decide +kernel)
set_option maxRecDepth 20000 in
theorem gX3_faultInto_X3_behindBlanks : GoodIn wsX3_faultInto (wsV RX3 37 RX3 yX3_behindBlanks wsX3_behindBlanks) := goodIn_app (goodIn_of _ (by decide +kernel)) ggX3_faultInto_X3_behindBlanks
set_option maxRecDepth 20000 in
theorem ggX3_faultInto_X3_tokenEnd : GoodIn wsX3_faultInto wsX3_tokenEnd := goodIn_r _ [17, 1, 18, 19, 20, 5, 21, 7, 8, 9, 10, 11, 12, 13, 22, 23, 24, 25, 26, 27, 28, 116, 117, 118, 119, 120, 121] (by decide +kernel) (by decide +kernel)
set_option maxRecDepth 20000 in
theorem gX3_faultInto_X3_tokenEnd : GoodIn wsX3_faultInto (wsV RX3 41 RX3 yX3_tokenEnd wsX3_tokenEnd) := goodIn_app (goodIn_of _ (by decide +kernel)) ggX3_faultInto_X3_tokenEnd
set_option maxRecDepth 20000 in
theorem ggX3_faultInto_X3_taken : GoodIn wsX3_faultInto wsX3_taken := goodIn_r _ [32, 7, 33, 34, 35, 36, 37, 38, 39, 5, 40, 25, 26, 27, 28, 8, 9, 10, 11, 12, 13, 22, 23, 24, 41, 42, 43, 44, 45, 46, 47, 48, 49, 50, 51, 52, 53, 54, 55, 56, 57, 58, 59, 60, 61, 62, 63, 64, 65, 66, 67, 68, 69, 70, 71, 72, 73, 74, 75, 76, 77, 78, 79, 80, 81, 82, 83, 84, 85, 86, 87, 88, 89, 90, 91, 92, 93, 94, 95, 96, 97, 98, 99, 100, 101, 102, 103, 104, 105, 106, 107, 108, 109, 110, 111, 112, 113, 114, 115, 116, 117, 118, 119, 120, 122, 123, 124, 125, 126, 127, 128, 129, 130, 131, 132, 133, 134, 135, 121] (by decide +kernel) (by decide +kernel)
set_option maxRecDepth 20000 in
theorem gX3_faultInto_X3_taken : GoodIn wsX3_faultInto (wsV RX3 44 RX3 yX3_taken wsX3_taken) := goodIn_app (goodIn_of _ (by decide +kernel)) ggX3_faultInto_X3_taken
theorem dX3_faultInto_0 : decode cX3_faultInto 0 = .ok (.iconst 0, 1) := by decide +kernel
theorem dX3_faultInto_1 : decode cX3_faultInto 1 = .ok (.istore_n 2, 1) := by decide +kernel
theorem dX3_faultInto_2 : decode cX3_faultInto 2 = .ok (.aload_n 0, 1) := by decide +kernel
theorem dX3_faultInto_3 : decode cX3_faultInto 3 = .ok (.iconst 0, 1) := by decide +kernel
theorem dX3_faultInto_4 : decode cX3_faultInto 4 = .ok (.invokevirtual 37, 3) := by decide +kernel
theorem dX3_faultInto_7 : decode cX3_faultInto 7 = .ok (.istore_n 3, 1) := by decide +kernel
theorem dX3_faultInto_8 : decode cX3_faultInto 8 = .ok (.iconst 0, 1) := by decide +kernel
theorem dX3_faultInto_9 : decode cX3_faultInto 9 = .ok (.istore 4, 2) := by decide +kernel
theorem dX3_faultInto_11 : decode cX3_faultInto 11 = .ok (.iload 4, 2) := by decide +kernel
theorem dX3_faultInto_13 : decode cX3_faultInto 13 = .ok (.sipush 150, 3) := by decide +kernel
theorem dX3_faultInto_16 : decode cX3_faultInto 16 = .ok (.if_icmp .ge 49, 3) := by decide +kernel
theorem dX3_faultInto_19 : decode cX3_faultInto 19 = .ok (.iload_n 3, 1) := by decide +kernel
theorem dX3_faultInto_20 : decode cX3_faultInto 20 = .ok (.aload_n 0, 1) := by decide +kernel
theorem dX3_faultInto_21 : decode cX3_faultInto 21 = .ok (.getfield 9, 3) := by decide +kernel
theorem dX3_faultInto_24 : decode cX3_faultInto 24 = .ok (.if_icmp .ge 41, 3) := by decide +kernel
theorem dX3_faultInto_27 : decode cX3_faultInto 27 = .ok (.aload_n 0, 1) := by decide +kernel
theorem dX3_faultInto_28 : decode cX3_faultInto 28 = .ok (.iload_n 3, 1) := by decide +kernel
theorem dX3_faultInto_29 : decode cX3_faultInto 29 = .ok (.invokevirtual 41, 3) := by decide +kernel
theorem dX3_faultInto_32 : decode cX3_faultInto 32 = .ok (.istore 5, 2) := by decide +kernel
theorem dX3_faultInto_34 : decode cX3_faultInto 34 = .ok (.aload_n 0, 1) := by decide +kernel
theorem dX3_faultInto_35 : decode cX3_faultInto 35 = .ok (.iload_n 2, 1) := by decide +kernel
theorem dX3_faultInto_36 : decode cX3_faultInto 36 = .ok (.iload_n 3, 1) := by decide +kernel
theorem dX3_faultInto_37 : decode cX3_faultInto 37 = .ok (.iload 5, 2) := by decide +kernel
theorem dX3_faultInto_39 : decode cX3_faultInto 39 = .ok (.aload_n 1, 1) := by decide +kernel
theorem dX3_faultInto_40 : decode cX3_faultInto 40 = .ok (.invokevirtual 44, 3) := by decide +kernel
theorem dX3_faultInto_43 : decode cX3_faultInto 43 = .ok (.istore_n 2, 1) := by decide +kernel
theorem dX3_faultInto_44 : decode cX3_faultInto 44 = .ok (.iload_n 2, 1) := by decide +kernel
theorem dX3_faultInto_45 : decode cX3_faultInto 45 = .ok (.bipush 8, 2) := by decide +kernel
theorem dX3_faultInto_47 : decode cX3_faultInto 47 = .ok (.if_icmp .ne 5, 3) := by decide +kernel
theorem dX3_faultInto_50 : decode cX3_faultInto 50 = .ok (.iload_n 3, 1) := by decide +kernel
theorem dX3_faultInto_51 : decode cX3_faultInto 51 = .ok (.ireturn, 1) := by decide +kernel
theorem dX3_faultInto_52 : decode cX3_faultInto 52 = .ok (.aload_n 0, 1) := by decide +kernel
theorem dX3_faultInto_53 : decode cX3_faultInto 53 = .ok (.iload 5, 2) := by decide +kernel
theorem dX3_faultInto_55 : decode cX3_faultInto 55 = .ok (.invokevirtual 37, 3) := by decide +kernel
theorem dX3_faultInto_58 : decode cX3_faultInto 58 = .ok (.istore_n 3, 1) := by decide +kernel
theorem dX3_faultInto_59 : decode cX3_faultInto 59 = .ok (.iinc 4 1, 3) := by decide +kernel
theorem dX3_faultInto_62 : decode cX3_faultInto 62 = .ok (.goto (-51), 3) := by decide +kernel
theorem dX3_faultInto_65 : decode cX3_faultInto 65 = .ok (.iload_n 2, 1) := by decide +kernel
theorem dX3_faultInto_66 : decode cX3_faultInto 66 = .ok (.iconst 3, 1) := by decide +kernel
theorem dX3_faultInto_67 : decode cX3_faultInto 67 = .ok (.if_icmp .ne 7, 3) := by decide +kernel
theorem dX3_faultInto_70 : decode cX3_faultInto 70 = .ok (.iconst (-1), 1) := by decide +kernel
theorem dX3_faultInto_71 : decode cX3_faultInto 71 = .ok (.goto 7, 3) := by decide +kernel
theorem dX3_faultInto_74 : decode cX3_faultInto 74 = .ok (.aload_n 0, 1) := by decide +kernel
theorem dX3_faultInto_75 : decode cX3_faultInto 75 = .ok (.getfield 9, 3) := by decide +kernel
theorem dX3_faultInto_78 : decode cX3_faultInto 78 = .ok (.ireturn, 1) := by decide +kernel
set_option maxRecDepth 20000 in
theorem ggX3_taken_X3_numberAt : GoodIn wsX3_taken wsX3_numberAt := goodIn_r _ [10, 1, 11, 12, 13, 9, 14, 15, 16, 17, 18, 19, 20, 21, 22, 23, 99, 100, 101, 102, 103, 118] (by decide +kernel) (by decide +kernel)
set_option maxRecDepth 20000 in
theorem gX3_taken_X3_numberAt : GoodIn wsX3_taken (wsV RX3 48 RX3 yX3_numberAt wsX3_numberAt) := goodIn_app (goodIn_of _ (by decide +kernel)) ggX3_taken_X3_numberAt
set_option maxRecDepth 20000 in
theorem ggX3_taken_X3_isWord : GoodIn wsX3_taken wsX3_isWord := goodIn_r _ [27, 1, 28, 29, 30, 31, 32, 33, 34, 35, 36, 37, 38, 39, 15, 16, 17, 18, 19, 20, 40, 41, 42, 43, 44, 45, 46, 47, 48, 49, 50, 51, 52, 53, 54, 55, 56, 57, 58, 59, 60, 61, 62, 63, 64, 65, 66, 67, 68, 69, 70, 71, 72, 73, 74, 75, 76, 99, 100, 101, 102, 103, 118] (by decide +kernel) (by decide +kernel)
set_option maxRecDepth 20000 in
theorem gX3_taken_X3_isWord : GoodIn wsX3_taken (wsV RX3 54 RX3 yX3_isWord wsX3_isWord) := goodIn_app (goodIn_of _ (by decide +kernel)) ggX3_taken_X3_isWord
set_option maxRecDepth 20000 in
theorem ggX3_taken_X5_within : GoodIn wsX3_taken wsX5_within := goodIn_r _ [23] (by decide +kernel) (by decide +kernel)
set_option maxRecDepth 20000 in
theorem gX3_taken_X5_within_n58 : GoodIn wsX3_taken (wsX5_within) := ggX3_taken_X5_within
set_option maxRecDepth 20000 in
theorem ggX3_taken_X0_reset : GoodIn wsX3_taken wsX0_reset := goodIn_r _ [81, 82, 83, 84, 85, 86, 87, 88, 104, 105, 106, 107, 108, 109, 110, 111, 112, 113, 114, 115, 116, 117] (by decide +kernel) (by decide +kernel)
set_option maxRecDepth 20000 in
theorem gX3_taken_X0_reset : GoodIn wsX3_taken (wsV RX3 62 RX0 yX0_reset wsX0_reset) := goodIn_app (goodIn_of _ (by decide +kernel)) ggX3_taken_X0_reset
set_option maxRecDepth 20000 in
theorem ggX3_taken_X2_get : GoodIn wsX3_taken wsX2_get := goodIn_r _ [19, 20, 118] (by decide +kernel) (by decide +kernel)
set_option maxRecDepth 20000 in
theorem gX3_taken_X2_get : GoodIn wsX3_taken (wsV RX3 67 RX2 yX2_get wsX2_get) := goodIn_app (goodIn_of _ (by decide +kernel)) ggX3_taken_X2_get
set_option maxRecDepth 20000 in
theorem ggX3_taken_X0_addLock : GoodIn wsX3_taken wsX0_addLock := goodIn_r _ [92, 93, 82, 94, 84, 88, 95, 96, 97, 18, 98, 20, 104, 105, 106, 107, 108, 109, 110, 111, 112, 113, 114, 115, 116, 117, 118] (by decide +kernel) (by decide +kernel)
set_option maxRecDepth 20000 in
theorem gX3_taken_X0_addLock : GoodIn wsX3_taken (wsV RX3 75 RX0 yX0_addLock wsX0_addLock) := goodIn_app (goodIn_of _ (by decide +kernel)) ggX3_taken_X0_addLock
theorem dX3_taken_0 : decode cX3_taken 0 = .ok (.aload_n 0, 1) := by decide +kernel
theorem dX3_taken_1 : decode cX3_taken 1 = .ok (.iload_n 2, 1) := by decide +kernel
theorem dX3_taken_2 : decode cX3_taken 2 = .ok (.iload_n 3, 1) := by decide +kernel
theorem dX3_taken_3 : decode cX3_taken 3 = .ok (.invokevirtual 48, 3) := by decide +kernel
theorem dX3_taken_6 : decode cX3_taken 6 = .ok (.istore 5, 2) := by decide +kernel
theorem dX3_taken_8 : decode cX3_taken 8 = .ok (.iload_n 1, 1) := by decide +kernel
theorem dX3_taken_9 : decode cX3_taken 9 = .ok (.tableswitch 204 0 6 #[43, 61, 84, 104, 132, 155, 179], 43) := by decide +kernel
theorem dX3_taken_52 : decode cX3_taken 52 = .ok (.aload_n 0, 1) := by decide +kernel
theorem dX3_taken_53 : decode cX3_taken 53 = .ok (.iload_n 2, 1) := by decide +kernel
theorem dX3_taken_54 : decode cX3_taken 54 = .ok (.iload_n 3, 1) := by decide +kernel
theorem dX3_taken_55 : decode cX3_taken 55 = .ok (.ldc 52, 2) := by decide +kernel
theorem dX3_taken_57 : decode cX3_taken 57 = .ok (.invokevirtual 54, 3) := by decide +kernel
theorem dX3_taken_60 : decode cX3_taken 60 = .ok (.ifCond .eq 7, 3) := by decide +kernel
theorem dX3_taken_63 : decode cX3_taken 63 = .ok (.iconst 1, 1) := by decide +kernel
theorem dX3_taken_64 : decode cX3_taken 64 = .ok (.goto 5, 3) := by decide +kernel
theorem dX3_taken_67 : decode cX3_taken 67 = .ok (.bipush 8, 2) := by decide +kernel
theorem dX3_taken_69 : decode cX3_taken 69 = .ok (.ireturn, 1) := by decide +kernel
theorem dX3_taken_70 : decode cX3_taken 70 = .ok (.iload 5, 2) := by decide +kernel
theorem dX3_taken_72 : decode cX3_taken 72 = .ok (.iconst 0, 1) := by decide +kernel
theorem dX3_taken_73 : decode cX3_taken 73 = .ok (.bipush 9, 2) := by decide +kernel
theorem dX3_taken_75 : decode cX3_taken 75 = .ok (.invokestatic 58, 3) := by decide +kernel
theorem dX3_taken_78 : decode cX3_taken 78 = .ok (.ifCond .ne 6, 3) := by decide +kernel
theorem dX3_taken_81 : decode cX3_taken 81 = .ok (.bipush 8, 2) := by decide +kernel
theorem dX3_taken_83 : decode cX3_taken 83 = .ok (.ireturn, 1) := by decide +kernel
theorem dX3_taken_84 : decode cX3_taken 84 = .ok (.aload 4, 2) := by decide +kernel
theorem dX3_taken_86 : decode cX3_taken 86 = .ok (.iload 5, 2) := by decide +kernel
theorem dX3_taken_88 : decode cX3_taken 88 = .ok (.invokevirtual 62, 3) := by decide +kernel
theorem dX3_taken_91 : decode cX3_taken 91 = .ok (.iconst 2, 1) := by decide +kernel
theorem dX3_taken_92 : decode cX3_taken 92 = .ok (.ireturn, 1) := by decide +kernel
theorem dX3_taken_93 : decode cX3_taken 93 = .ok (.aload_n 0, 1) := by decide +kernel
theorem dX3_taken_94 : decode cX3_taken 94 = .ok (.getfield 20, 3) := by decide +kernel
theorem dX3_taken_97 : decode cX3_taken 97 = .ok (.iload_n 2, 1) := by decide +kernel
theorem dX3_taken_98 : decode cX3_taken 98 = .ok (.invokevirtual 67, 3) := by decide +kernel
theorem dX3_taken_101 : decode cX3_taken 101 = .ok (.bipush 59, 2) := by decide +kernel
theorem dX3_taken_103 : decode cX3_taken 103 = .ok (.if_icmp .ne 7, 3) := by decide +kernel
theorem dX3_taken_106 : decode cX3_taken 106 = .ok (.iconst 3, 1) := by decide +kernel
theorem dX3_taken_107 : decode cX3_taken 107 = .ok (.goto 5, 3) := by decide +kernel
theorem dX3_taken_110 : decode cX3_taken 110 = .ok (.bipush 8, 2) := by decide +kernel
theorem dX3_taken_112 : decode cX3_taken 112 = .ok (.ireturn, 1) := by decide +kernel
theorem dX3_taken_113 : decode cX3_taken 113 = .ok (.aload_n 0, 1) := by decide +kernel
theorem dX3_taken_114 : decode cX3_taken 114 = .ok (.iload_n 2, 1) := by decide +kernel
theorem dX3_taken_115 : decode cX3_taken 115 = .ok (.iload_n 3, 1) := by decide +kernel
theorem dX3_taken_116 : decode cX3_taken 116 = .ok (.ldc 70, 2) := by decide +kernel
theorem dX3_taken_118 : decode cX3_taken 118 = .ok (.invokevirtual 54, 3) := by decide +kernel
theorem dX3_taken_121 : decode cX3_taken 121 = .ok (.ifCond .eq 17, 3) := by decide +kernel
theorem dX3_taken_124 : decode cX3_taken 124 = .ok (.aload 4, 2) := by decide +kernel
theorem dX3_taken_126 : decode cX3_taken 126 = .ok (.getfield 72, 3) := by decide +kernel
theorem dX3_taken_129 : decode cX3_taken 129 = .ok (.bipush 8, 2) := by decide +kernel
theorem dX3_taken_131 : decode cX3_taken 131 = .ok (.if_icmp .ge 7, 3) := by decide +kernel
theorem dX3_taken_134 : decode cX3_taken 134 = .ok (.iconst 4, 1) := by decide +kernel
theorem dX3_taken_135 : decode cX3_taken 135 = .ok (.goto 5, 3) := by decide +kernel
theorem dX3_taken_138 : decode cX3_taken 138 = .ok (.bipush 8, 2) := by decide +kernel
theorem dX3_taken_140 : decode cX3_taken 140 = .ok (.ireturn, 1) := by decide +kernel
theorem dX3_taken_141 : decode cX3_taken 141 = .ok (.aload_n 0, 1) := by decide +kernel
theorem dX3_taken_142 : decode cX3_taken 142 = .ok (.iload 5, 2) := by decide +kernel
theorem dX3_taken_144 : decode cX3_taken 144 = .ok (.putfield 24, 3) := by decide +kernel
theorem dX3_taken_147 : decode cX3_taken 147 = .ok (.iload 5, 2) := by decide +kernel
theorem dX3_taken_149 : decode cX3_taken 149 = .ok (.iconst 0, 1) := by decide +kernel
theorem dX3_taken_150 : decode cX3_taken 150 = .ok (.iconst 5, 1) := by decide +kernel
theorem dX3_taken_151 : decode cX3_taken 151 = .ok (.invokestatic 58, 3) := by decide +kernel
theorem dX3_taken_154 : decode cX3_taken 154 = .ok (.ifCond .eq 7, 3) := by decide +kernel
theorem dX3_taken_157 : decode cX3_taken 157 = .ok (.iconst 5, 1) := by decide +kernel
theorem dX3_taken_158 : decode cX3_taken 158 = .ok (.goto 5, 3) := by decide +kernel
theorem dX3_taken_161 : decode cX3_taken 161 = .ok (.bipush 8, 2) := by decide +kernel
theorem dX3_taken_163 : decode cX3_taken 163 = .ok (.ireturn, 1) := by decide +kernel
theorem dX3_taken_164 : decode cX3_taken 164 = .ok (.aload_n 0, 1) := by decide +kernel
theorem dX3_taken_165 : decode cX3_taken 165 = .ok (.iload 5, 2) := by decide +kernel
theorem dX3_taken_167 : decode cX3_taken 167 = .ok (.putfield 27, 3) := by decide +kernel
theorem dX3_taken_170 : decode cX3_taken 170 = .ok (.iload 5, 2) := by decide +kernel
theorem dX3_taken_172 : decode cX3_taken 172 = .ok (.iconst 0, 1) := by decide +kernel
theorem dX3_taken_173 : decode cX3_taken 173 = .ok (.iconst 1, 1) := by decide +kernel
theorem dX3_taken_174 : decode cX3_taken 174 = .ok (.invokestatic 58, 3) := by decide +kernel
theorem dX3_taken_177 : decode cX3_taken 177 = .ok (.ifCond .eq 8, 3) := by decide +kernel
theorem dX3_taken_180 : decode cX3_taken 180 = .ok (.bipush 6, 2) := by decide +kernel
theorem dX3_taken_182 : decode cX3_taken 182 = .ok (.goto 5, 3) := by decide +kernel
theorem dX3_taken_185 : decode cX3_taken 185 = .ok (.bipush 8, 2) := by decide +kernel
theorem dX3_taken_187 : decode cX3_taken 187 = .ok (.ireturn, 1) := by decide +kernel
theorem dX3_taken_188 : decode cX3_taken 188 = .ok (.aload_n 0, 1) := by decide +kernel
theorem dX3_taken_189 : decode cX3_taken 189 = .ok (.iload 5, 2) := by decide +kernel
theorem dX3_taken_191 : decode cX3_taken 191 = .ok (.putfield 30, 3) := by decide +kernel
theorem dX3_taken_194 : decode cX3_taken 194 = .ok (.iload 5, 2) := by decide +kernel
theorem dX3_taken_196 : decode cX3_taken 196 = .ok (.iconst 1, 1) := by decide +kernel
theorem dX3_taken_197 : decode cX3_taken 197 = .ok (.bipush 20, 2) := by decide +kernel
theorem dX3_taken_199 : decode cX3_taken 199 = .ok (.invokestatic 58, 3) := by decide +kernel
theorem dX3_taken_202 : decode cX3_taken 202 = .ok (.ifCond .eq 8, 3) := by decide +kernel
theorem dX3_taken_205 : decode cX3_taken 205 = .ok (.bipush 7, 2) := by decide +kernel
theorem dX3_taken_207 : decode cX3_taken 207 = .ok (.goto 5, 3) := by decide +kernel
theorem dX3_taken_210 : decode cX3_taken 210 = .ok (.bipush 8, 2) := by decide +kernel
theorem dX3_taken_212 : decode cX3_taken 212 = .ok (.ireturn, 1) := by decide +kernel
theorem dX3_taken_213 : decode cX3_taken 213 = .ok (.aload_n 0, 1) := by decide +kernel
theorem dX3_taken_214 : decode cX3_taken 214 = .ok (.getfield 20, 3) := by decide +kernel
theorem dX3_taken_217 : decode cX3_taken 217 = .ok (.iload_n 2, 1) := by decide +kernel
theorem dX3_taken_218 : decode cX3_taken 218 = .ok (.invokevirtual 67, 3) := by decide +kernel
theorem dX3_taken_221 : decode cX3_taken 221 = .ok (.bipush 59, 2) := by decide +kernel
theorem dX3_taken_223 : decode cX3_taken 223 = .ok (.if_icmp .eq 6, 3) := by decide +kernel
theorem dX3_taken_226 : decode cX3_taken 226 = .ok (.bipush 8, 2) := by decide +kernel
theorem dX3_taken_228 : decode cX3_taken 228 = .ok (.ireturn, 1) := by decide +kernel
theorem dX3_taken_229 : decode cX3_taken 229 = .ok (.aload 4, 2) := by decide +kernel
theorem dX3_taken_231 : decode cX3_taken 231 = .ok (.aload_n 0, 1) := by decide +kernel
theorem dX3_taken_232 : decode cX3_taken 232 = .ok (.getfield 24, 3) := by decide +kernel
theorem dX3_taken_235 : decode cX3_taken 235 = .ok (.aload_n 0, 1) := by decide +kernel
theorem dX3_taken_236 : decode cX3_taken 236 = .ok (.getfield 27, 3) := by decide +kernel
theorem dX3_taken_239 : decode cX3_taken 239 = .ok (.aload_n 0, 1) := by decide +kernel
theorem dX3_taken_240 : decode cX3_taken 240 = .ok (.getfield 30, 3) := by decide +kernel
theorem dX3_taken_243 : decode cX3_taken 243 = .ok (.invokevirtual 75, 3) := by decide +kernel
theorem dX3_taken_246 : decode cX3_taken 246 = .ok (.iconst 3, 1) := by decide +kernel
theorem dX3_taken_247 : decode cX3_taken 247 = .ok (.ireturn, 1) := by decide +kernel
set_option maxRecDepth 20000 in
theorem ggX3_behindBlanks_X2_get : GoodIn wsX3_behindBlanks wsX2_get := goodIn_r _ [7, 8, 14] (by decide +kernel) (by decide +kernel)
set_option maxRecDepth 20000 in
theorem gX3_behindBlanks_X2_get : GoodIn wsX3_behindBlanks (wsV RX3 67 RX2 yX2_get wsX2_get) := goodIn_app (goodIn_of _ (by decide +kernel)) ggX3_behindBlanks_X2_get
theorem dX3_behindBlanks_0 : decode cX3_behindBlanks 0 = .ok (.iload_n 1, 1) := by decide +kernel
theorem dX3_behindBlanks_1 : decode cX3_behindBlanks 1 = .ok (.istore_n 2, 1) := by decide +kernel
theorem dX3_behindBlanks_2 : decode cX3_behindBlanks 2 = .ok (.iload_n 2, 1) := by decide +kernel
theorem dX3_behindBlanks_3 : decode cX3_behindBlanks 3 = .ok (.aload_n 0, 1) := by decide +kernel
theorem dX3_behindBlanks_4 : decode cX3_behindBlanks 4 = .ok (.getfield 9, 3) := by decide +kernel
theorem dX3_behindBlanks_7 : decode cX3_behindBlanks 7 = .ok (.if_icmp .ge 22, 3) := by decide +kernel
theorem dX3_behindBlanks_10 : decode cX3_behindBlanks 10 = .ok (.aload_n 0, 1) := by decide +kernel
theorem dX3_behindBlanks_11 : decode cX3_behindBlanks 11 = .ok (.getfield 20, 3) := by decide +kernel
theorem dX3_behindBlanks_14 : decode cX3_behindBlanks 14 = .ok (.iload_n 2, 1) := by decide +kernel
theorem dX3_behindBlanks_15 : decode cX3_behindBlanks 15 = .ok (.invokevirtual 67, 3) := by decide +kernel
theorem dX3_behindBlanks_18 : decode cX3_behindBlanks 18 = .ok (.bipush 32, 2) := by decide +kernel
theorem dX3_behindBlanks_20 : decode cX3_behindBlanks 20 = .ok (.if_icmp .ne 9, 3) := by decide +kernel
theorem dX3_behindBlanks_23 : decode cX3_behindBlanks 23 = .ok (.iinc 2 1, 3) := by decide +kernel
theorem dX3_behindBlanks_26 : decode cX3_behindBlanks 26 = .ok (.goto (-24), 3) := by decide +kernel
theorem dX3_behindBlanks_29 : decode cX3_behindBlanks 29 = .ok (.iload_n 2, 1) := by decide +kernel
theorem dX3_behindBlanks_30 : decode cX3_behindBlanks 30 = .ok (.ireturn, 1) := by decide +kernel
set_option maxRecDepth 20000 in
theorem ggX3_tokenEnd_X3_isLetter : GoodIn wsX3_tokenEnd wsX3_isLetter := goodIn_r _ [6, 7, 8, 9, 10, 11, 12, 13, 14, 15, 16, 21, 22, 23, 24, 25, 26] (by decide +kernel) (by decide +kernel)
set_option maxRecDepth 20000 in
theorem gX3_tokenEnd_X3_isLetter : GoodIn wsX3_tokenEnd (wsV RX3 79 RX3 yX3_isLetter wsX3_isLetter) := goodIn_app (goodIn_of _ (by decide +kernel)) ggX3_tokenEnd_X3_isLetter
set_option maxRecDepth 20000 in
theorem ggX3_tokenEnd_X3_isFigure : GoodIn wsX3_tokenEnd wsX3_isFigure := goodIn_r _ [20, 7, 8, 9, 10, 11, 12, 13, 14, 15, 16, 21, 22, 23, 24, 25, 26] (by decide +kernel) (by decide +kernel)
set_option maxRecDepth 20000 in
theorem gX3_tokenEnd_X3_isFigure : GoodIn wsX3_tokenEnd (wsV RX3 83 RX3 yX3_isFigure wsX3_isFigure) := goodIn_app (goodIn_of _ (by decide +kernel)) ggX3_tokenEnd_X3_isFigure
theorem dX3_tokenEnd_0 : decode cX3_tokenEnd 0 = .ok (.iload_n 1, 1) := by decide +kernel
theorem dX3_tokenEnd_1 : decode cX3_tokenEnd 1 = .ok (.iconst 1, 1) := by decide +kernel
theorem dX3_tokenEnd_2 : decode cX3_tokenEnd 2 = .ok (.iadd, 1) := by decide +kernel
theorem dX3_tokenEnd_3 : decode cX3_tokenEnd 3 = .ok (.istore_n 2, 1) := by decide +kernel
theorem dX3_tokenEnd_4 : decode cX3_tokenEnd 4 = .ok (.aload_n 0, 1) := by decide +kernel
theorem dX3_tokenEnd_5 : decode cX3_tokenEnd 5 = .ok (.iload_n 1, 1) := by decide +kernel
theorem dX3_tokenEnd_6 : decode cX3_tokenEnd 6 = .ok (.invokevirtual 79, 3) := by decide +kernel
theorem dX3_tokenEnd_9 : decode cX3_tokenEnd 9 = .ok (.ifCond .eq 25, 3) := by decide +kernel
theorem dX3_tokenEnd_12 : decode cX3_tokenEnd 12 = .ok (.iload_n 2, 1) := by decide +kernel
theorem dX3_tokenEnd_13 : decode cX3_tokenEnd 13 = .ok (.aload_n 0, 1) := by decide +kernel
theorem dX3_tokenEnd_14 : decode cX3_tokenEnd 14 = .ok (.getfield 9, 3) := by decide +kernel
theorem dX3_tokenEnd_17 : decode cX3_tokenEnd 17 = .ok (.if_icmp .ge 47, 3) := by decide +kernel
theorem dX3_tokenEnd_20 : decode cX3_tokenEnd 20 = .ok (.aload_n 0, 1) := by decide +kernel
theorem dX3_tokenEnd_21 : decode cX3_tokenEnd 21 = .ok (.iload_n 2, 1) := by decide +kernel
theorem dX3_tokenEnd_22 : decode cX3_tokenEnd 22 = .ok (.invokevirtual 79, 3) := by decide +kernel
theorem dX3_tokenEnd_25 : decode cX3_tokenEnd 25 = .ok (.ifCond .eq 39, 3) := by decide +kernel
theorem dX3_tokenEnd_28 : decode cX3_tokenEnd 28 = .ok (.iinc 2 1, 3) := by decide +kernel
theorem dX3_tokenEnd_31 : decode cX3_tokenEnd 31 = .ok (.goto (-19), 3) := by decide +kernel
theorem dX3_tokenEnd_34 : decode cX3_tokenEnd 34 = .ok (.aload_n 0, 1) := by decide +kernel
theorem dX3_tokenEnd_35 : decode cX3_tokenEnd 35 = .ok (.iload_n 1, 1) := by decide +kernel
theorem dX3_tokenEnd_36 : decode cX3_tokenEnd 36 = .ok (.invokevirtual 83, 3) := by decide +kernel
theorem dX3_tokenEnd_39 : decode cX3_tokenEnd 39 = .ok (.ifCond .eq 25, 3) := by decide +kernel
theorem dX3_tokenEnd_42 : decode cX3_tokenEnd 42 = .ok (.iload_n 2, 1) := by decide +kernel
theorem dX3_tokenEnd_43 : decode cX3_tokenEnd 43 = .ok (.aload_n 0, 1) := by decide +kernel
theorem dX3_tokenEnd_44 : decode cX3_tokenEnd 44 = .ok (.getfield 9, 3) := by decide +kernel
theorem dX3_tokenEnd_47 : decode cX3_tokenEnd 47 = .ok (.if_icmp .ge 17, 3) := by decide +kernel
theorem dX3_tokenEnd_50 : decode cX3_tokenEnd 50 = .ok (.aload_n 0, 1) := by decide +kernel
theorem dX3_tokenEnd_51 : decode cX3_tokenEnd 51 = .ok (.iload_n 2, 1) := by decide +kernel
theorem dX3_tokenEnd_52 : decode cX3_tokenEnd 52 = .ok (.invokevirtual 83, 3) := by decide +kernel
theorem dX3_tokenEnd_55 : decode cX3_tokenEnd 55 = .ok (.ifCond .eq 9, 3) := by decide +kernel
theorem dX3_tokenEnd_58 : decode cX3_tokenEnd 58 = .ok (.iinc 2 1, 3) := by decide +kernel
theorem dX3_tokenEnd_61 : decode cX3_tokenEnd 61 = .ok (.goto (-19), 3) := by decide +kernel
theorem dX3_tokenEnd_64 : decode cX3_tokenEnd 64 = .ok (.iload_n 2, 1) := by decide +kernel
theorem dX3_tokenEnd_65 : decode cX3_tokenEnd 65 = .ok (.ireturn, 1) := by decide +kernel
set_option maxRecDepth 20000 in
theorem ggX3_isLetter_X2_get : GoodIn wsX3_isLetter wsX2_get := goodIn_r _ [6, 7, 16] (by decide +kernel) (by decide +kernel)
set_option maxRecDepth 20000 in
theorem gX3_isLetter_X2_get : GoodIn wsX3_isLetter (wsV RX3 67 RX2 yX2_get wsX2_get) := goodIn_app (goodIn_of _ (by decide +kernel)) ggX3_isLetter_X2_get
set_option maxRecDepth 20000 in
theorem ggX3_isLetter_X5_within : GoodIn wsX3_isLetter wsX5_within := goodIn_r _ [10] (by decide +kernel) (by decide +kernel)
set_option maxRecDepth 20000 in
theorem gX3_isLetter_X5_within_n58 : GoodIn wsX3_isLetter (wsX5_within) := ggX3_isLetter_X5_within
theorem dX3_isLetter_0 : decode cX3_isLetter 0 = .ok (.aload_n 0, 1) := by decide +kernel
theorem dX3_isLetter_1 : decode cX3_isLetter 1 = .ok (.getfield 20, 3) := by decide +kernel
theorem dX3_isLetter_4 : decode cX3_isLetter 4 = .ok (.iload_n 1, 1) := by decide +kernel
theorem dX3_isLetter_5 : decode cX3_isLetter 5 = .ok (.invokevirtual 67, 3) := by decide +kernel
theorem dX3_isLetter_8 : decode cX3_isLetter 8 = .ok (.bipush 97, 2) := by decide +kernel
theorem dX3_isLetter_10 : decode cX3_isLetter 10 = .ok (.bipush 122, 2) := by decide +kernel
theorem dX3_isLetter_12 : decode cX3_isLetter 12 = .ok (.invokestatic 58, 3) := by decide +kernel
theorem dX3_isLetter_15 : decode cX3_isLetter 15 = .ok (.ireturn, 1) := by decide +kernel
set_option maxRecDepth 20000 in
theorem ggX3_isFigure_X2_get : GoodIn wsX3_isFigure wsX2_get := goodIn_r _ [6, 7, 16] (by decide +kernel) (by decide +kernel)
set_option maxRecDepth 20000 in
theorem gX3_isFigure_X2_get : GoodIn wsX3_isFigure (wsV RX3 67 RX2 yX2_get wsX2_get) := goodIn_app (goodIn_of _ (by decide +kernel)) ggX3_isFigure_X2_get
set_option maxRecDepth 20000 in
theorem ggX3_isFigure_X5_within : GoodIn wsX3_isFigure wsX5_within := goodIn_r _ [10] (by decide +kernel) (by decide +kernel)
set_option maxRecDepth 20000 in
theorem gX3_isFigure_X5_within_n58 : GoodIn wsX3_isFigure (wsX5_within) := ggX3_isFigure_X5_within
theorem dX3_isFigure_0 : decode cX3_isFigure 0 = .ok (.aload_n 0, 1) := by decide +kernel
theorem dX3_isFigure_1 : decode cX3_isFigure 1 = .ok (.getfield 20, 3) := by decide +kernel
theorem dX3_isFigure_4 : decode cX3_isFigure 4 = .ok (.iload_n 1, 1) := by decide +kernel
theorem dX3_isFigure_5 : decode cX3_isFigure 5 = .ok (.invokevirtual 67, 3) := by decide +kernel
theorem dX3_isFigure_8 : decode cX3_isFigure 8 = .ok (.bipush 48, 2) := by decide +kernel
theorem dX3_isFigure_10 : decode cX3_isFigure 10 = .ok (.bipush 57, 2) := by decide +kernel
theorem dX3_isFigure_12 : decode cX3_isFigure 12 = .ok (.invokestatic 58, 3) := by decide +kernel
theorem dX3_isFigure_15 : decode cX3_isFigure 15 = .ok (.ireturn, 1) := by decide +kernel
set_option maxRecDepth 20000 in
theorem ggX3_isWord_J0_length_8abf5 : GoodIn wsX3_isWord wsJ0_length_8abf5 := goodIn_r _ [6, 7, 8, 9, 10, 5, 11, 12, 13] (by decide +kernel) (by decide +kernel)
set_option maxRecDepth 20000 in
theorem gX3_isWord_J0_length_8abf5 : GoodIn wsX3_isWord (wsV RX3 86 RJ0 yJ0_length_8abf5 wsJ0_length_8abf5) := goodIn_app (goodIn_of _ (by decide +kernel)) ggX3_isWord_J0_length_8abf5
set_option maxRecDepth 20000 in
theorem ggX3_isWord_X2_get : GoodIn wsX3_isWord wsX2_get := goodIn_r _ [18, 19, 62] (by decide +kernel) (by decide +kernel)
set_option maxRecDepth 20000 in
theorem gX3_isWord_X2_get : GoodIn wsX3_isWord (wsV RX3 67 RX2 yX2_get wsX2_get) := goodIn_app (goodIn_of _ (by decide +kernel)) ggX3_isWord_X2_get
set_option maxRecDepth 20000 in
theorem ggX3_isWord_J0_charAt_5068e : GoodIn wsX3_isWord wsJ0_charAt_5068e := goodIn_r _ [23, 7, 24, 25, 26, 5, 27, 12, 13, 28, 29, 30, 31, 32, 33, 34, 35, 36, 37, 38, 39, 40, 41, 42, 43, 44, 45, 46, 47, 48, 49, 50, 51, 52, 53, 54, 55, 56] (by decide +kernel) (by decide +kernel)
set_option maxRecDepth 20000 in
theorem gX3_isWord_J0_charAt_5068e : GoodIn wsX3_isWord (wsV RX3 91 RJ0 yJ0_charAt_5068e wsJ0_charAt_5068e) := goodIn_app (goodIn_of _ (by decide +kernel)) ggX3_isWord_J0_charAt_5068e
theorem dX3_isWord_0 : decode cX3_isWord 0 = .ok (.iload_n 2, 1) := by decide +kernel
theorem dX3_isWord_1 : decode cX3_isWord 1 = .ok (.iload_n 1, 1) := by decide +kernel
theorem dX3_isWord_2 : decode cX3_isWord 2 = .ok (.isub, 1) := by decide +kernel
theorem dX3_isWord_3 : decode cX3_isWord 3 = .ok (.aload_n 3, 1) := by decide +kernel
theorem dX3_isWord_4 : decode cX3_isWord 4 = .ok (.invokevirtual 86, 3) := by decide +kernel
theorem dX3_isWord_7 : decode cX3_isWord 7 = .ok (.if_icmp .eq 5, 3) := by decide +kernel
theorem dX3_isWord_10 : decode cX3_isWord 10 = .ok (.iconst 0, 1) := by decide +kernel
theorem dX3_isWord_11 : decode cX3_isWord 11 = .ok (.ireturn, 1) := by decide +kernel
theorem dX3_isWord_12 : decode cX3_isWord 12 = .ok (.iconst 0, 1) := by decide +kernel
theorem dX3_isWord_13 : decode cX3_isWord 13 = .ok (.istore 4, 2) := by decide +kernel
theorem dX3_isWord_15 : decode cX3_isWord 15 = .ok (.iload 4, 2) := by decide +kernel
theorem dX3_isWord_17 : decode cX3_isWord 17 = .ok (.aload_n 3, 1) := by decide +kernel
theorem dX3_isWord_18 : decode cX3_isWord 18 = .ok (.invokevirtual 86, 3) := by decide +kernel
theorem dX3_isWord_21 : decode cX3_isWord 21 = .ok (.if_icmp .ge 31, 3) := by decide +kernel
theorem dX3_isWord_24 : decode cX3_isWord 24 = .ok (.aload_n 0, 1) := by decide +kernel
theorem dX3_isWord_25 : decode cX3_isWord 25 = .ok (.getfield 20, 3) := by decide +kernel
theorem dX3_isWord_28 : decode cX3_isWord 28 = .ok (.iload_n 1, 1) := by decide +kernel
theorem dX3_isWord_29 : decode cX3_isWord 29 = .ok (.iload 4, 2) := by decide +kernel
theorem dX3_isWord_31 : decode cX3_isWord 31 = .ok (.iadd, 1) := by decide +kernel
theorem dX3_isWord_32 : decode cX3_isWord 32 = .ok (.invokevirtual 67, 3) := by decide +kernel
theorem dX3_isWord_35 : decode cX3_isWord 35 = .ok (.aload_n 3, 1) := by decide +kernel
theorem dX3_isWord_36 : decode cX3_isWord 36 = .ok (.iload 4, 2) := by decide +kernel
theorem dX3_isWord_38 : decode cX3_isWord 38 = .ok (.invokevirtual 91, 3) := by decide +kernel
theorem dX3_isWord_41 : decode cX3_isWord 41 = .ok (.if_icmp .eq 5, 3) := by decide +kernel
theorem dX3_isWord_44 : decode cX3_isWord 44 = .ok (.iconst 0, 1) := by decide +kernel
theorem dX3_isWord_45 : decode cX3_isWord 45 = .ok (.ireturn, 1) := by decide +kernel
theorem dX3_isWord_46 : decode cX3_isWord 46 = .ok (.iinc 4 1, 3) := by decide +kernel
theorem dX3_isWord_49 : decode cX3_isWord 49 = .ok (.goto (-34), 3) := by decide +kernel
theorem dX3_isWord_52 : decode cX3_isWord 52 = .ok (.iconst 1, 1) := by decide +kernel
theorem dX3_isWord_53 : decode cX3_isWord 53 = .ok (.ireturn, 1) := by decide +kernel
set_option maxRecDepth 20000 in
theorem ggX3_numberAt_X3_isFigure : GoodIn wsX3_numberAt wsX3_isFigure := goodIn_r _ [6, 1, 7, 8, 9, 10, 11, 12, 13, 14, 15, 16, 17, 18, 19, 20, 21] (by decide +kernel) (by decide +kernel)
set_option maxRecDepth 20000 in
theorem gX3_numberAt_X3_isFigure : GoodIn wsX3_numberAt (wsV RX3 83 RX3 yX3_isFigure wsX3_isFigure) := goodIn_app (goodIn_of _ (by decide +kernel)) ggX3_numberAt_X3_isFigure
set_option maxRecDepth 20000 in
theorem ggX3_numberAt_X2_get : GoodIn wsX3_numberAt wsX2_get := goodIn_r _ [11, 12, 21] (by decide +kernel) (by decide +kernel)
set_option maxRecDepth 20000 in
theorem gX3_numberAt_X2_get : GoodIn wsX3_numberAt (wsV RX3 67 RX2 yX2_get wsX2_get) := goodIn_app (goodIn_of _ (by decide +kernel)) ggX3_numberAt_X2_get
theorem dX3_numberAt_0 : decode cX3_numberAt 0 = .ok (.aload_n 0, 1) := by decide +kernel
theorem dX3_numberAt_1 : decode cX3_numberAt 1 = .ok (.iload_n 1, 1) := by decide +kernel
theorem dX3_numberAt_2 : decode cX3_numberAt 2 = .ok (.invokevirtual 83, 3) := by decide +kernel
theorem dX3_numberAt_5 : decode cX3_numberAt 5 = .ok (.ifCond .eq 10, 3) := by decide +kernel
theorem dX3_numberAt_8 : decode cX3_numberAt 8 = .ok (.iload_n 2, 1) := by decide +kernel
theorem dX3_numberAt_9 : decode cX3_numberAt 9 = .ok (.iload_n 1, 1) := by decide +kernel
theorem dX3_numberAt_10 : decode cX3_numberAt 10 = .ok (.isub, 1) := by decide +kernel
theorem dX3_numberAt_11 : decode cX3_numberAt 11 = .ok (.iconst 2, 1) := by decide +kernel
theorem dX3_numberAt_12 : decode cX3_numberAt 12 = .ok (.if_icmp .le 5, 3) := by decide +kernel
theorem dX3_numberAt_15 : decode cX3_numberAt 15 = .ok (.iconst (-1), 1) := by decide +kernel
theorem dX3_numberAt_16 : decode cX3_numberAt 16 = .ok (.ireturn, 1) := by decide +kernel
theorem dX3_numberAt_17 : decode cX3_numberAt 17 = .ok (.iconst 0, 1) := by decide +kernel
theorem dX3_numberAt_18 : decode cX3_numberAt 18 = .ok (.istore_n 3, 1) := by decide +kernel
theorem dX3_numberAt_19 : decode cX3_numberAt 19 = .ok (.iload_n 1, 1) := by decide +kernel
theorem dX3_numberAt_20 : decode cX3_numberAt 20 = .ok (.istore 4, 2) := by decide +kernel
theorem dX3_numberAt_22 : decode cX3_numberAt 22 = .ok (.iload 4, 2) := by decide +kernel
theorem dX3_numberAt_24 : decode cX3_numberAt 24 = .ok (.iload_n 2, 1) := by decide +kernel
theorem dX3_numberAt_25 : decode cX3_numberAt 25 = .ok (.if_icmp .ge 27, 3) := by decide +kernel
theorem dX3_numberAt_28 : decode cX3_numberAt 28 = .ok (.bipush 10, 2) := by decide +kernel
theorem dX3_numberAt_30 : decode cX3_numberAt 30 = .ok (.iload_n 3, 1) := by decide +kernel
theorem dX3_numberAt_31 : decode cX3_numberAt 31 = .ok (.imul, 1) := by decide +kernel
theorem dX3_numberAt_32 : decode cX3_numberAt 32 = .ok (.aload_n 0, 1) := by decide +kernel
theorem dX3_numberAt_33 : decode cX3_numberAt 33 = .ok (.getfield 20, 3) := by decide +kernel
theorem dX3_numberAt_36 : decode cX3_numberAt 36 = .ok (.iload 4, 2) := by decide +kernel
theorem dX3_numberAt_38 : decode cX3_numberAt 38 = .ok (.invokevirtual 67, 3) := by decide +kernel
theorem dX3_numberAt_41 : decode cX3_numberAt 41 = .ok (.iadd, 1) := by decide +kernel
theorem dX3_numberAt_42 : decode cX3_numberAt 42 = .ok (.bipush 48, 2) := by decide +kernel
theorem dX3_numberAt_44 : decode cX3_numberAt 44 = .ok (.isub, 1) := by decide +kernel
theorem dX3_numberAt_45 : decode cX3_numberAt 45 = .ok (.istore_n 3, 1) := by decide +kernel
theorem dX3_numberAt_46 : decode cX3_numberAt 46 = .ok (.iinc 4 1, 3) := by decide +kernel
theorem dX3_numberAt_49 : decode cX3_numberAt 49 = .ok (.goto (-27), 3) := by decide +kernel
theorem dX3_numberAt_52 : decode cX3_numberAt 52 = .ok (.iload_n 3, 1) := by decide +kernel
theorem dX3_numberAt_53 : decode cX3_numberAt 53 = .ok (.ireturn, 1) := by decide +kernel
