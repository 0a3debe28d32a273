set_option maxRecDepth 20000 in
theorem ggX4_init_X2_init : GoodIn wsX4_init wsX2_init := goodIn_r _ [23, 24, 2, 3, 25, 26, 27, 28, 29, 30, 45] (by decide +kernel) (by decide +kernel)
set_option maxRecDepth 20000 in
theorem gX4_init_X2_init : GoodIn wsX4_init (wsX2_init) := ggX4_init_X2_init
theorem dX4_init_0 : decode cX4_init 0 = .ok (.aload_n 0, 1) := by decide +kernel
theorem dX4_init_1 : decode cX4_init 1 = .ok (.invokespecial 3, 3) := by decide +kernel
theorem dX4_init_4 : decode cX4_init 4 = .ok (.aload_n 0, 1) := by decide +kernel
theorem dX4_init_5 : decode cX4_init 5 = .ok (.iconst 0, 1) := by decide +kernel
theorem dX4_init_6 : decode cX4_init 6 = .ok (.putfield 9, 3) := by decide +kernel
theorem dX4_init_9 : decode cX4_init 9 = .ok (.aload_n 0, 1) := by decide +kernel
theorem dX4_init_10 : decode cX4_init 10 = .ok (.iconst 0, 1) := by decide +kernel
theorem dX4_init_11 : decode cX4_init 11 = .ok (.putfield 15, 3) := by decide +kernel
theorem dX4_init_14 : decode cX4_init 14 = .ok (.aload_n 0, 1) := by decide +kernel
theorem dX4_init_15 : decode cX4_init 15 = .ok (.iconst 1, 1) := by decide +kernel
theorem dX4_init_16 : decode cX4_init 16 = .ok (.putfield 18, 3) := by decide +kernel
theorem dX4_init_19 : decode cX4_init 19 = .ok (.aload_n 0, 1) := by decide +kernel
theorem dX4_init_20 : decode cX4_init 20 = .ok (.iconst 0, 1) := by decide +kernel
theorem dX4_init_21 : decode cX4_init 21 = .ok (.putfield 21, 3) := by decide +kernel
theorem dX4_init_24 : decode cX4_init 24 = .ok (.aload_n 0, 1) := by decide +kernel
theorem dX4_init_25 : decode cX4_init 25 = .ok (.iconst 5, 1) := by decide +kernel
theorem dX4_init_26 : decode cX4_init 26 = .ok (.putfield 24, 3) := by decide +kernel
theorem dX4_init_29 : decode cX4_init 29 = .ok (.aload_n 0, 1) := by decide +kernel
theorem dX4_init_30 : decode cX4_init 30 = .ok (.iconst 0, 1) := by decide +kernel
theorem dX4_init_31 : decode cX4_init 31 = .ok (.putfield 27, 3) := by decide +kernel
theorem dX4_init_34 : decode cX4_init 34 = .ok (.aload_n 0, 1) := by decide +kernel
theorem dX4_init_35 : decode cX4_init 35 = .ok (.iconst 0, 1) := by decide +kernel
theorem dX4_init_36 : decode cX4_init 36 = .ok (.putfield 30, 3) := by decide +kernel
theorem dX4_init_39 : decode cX4_init 39 = .ok (.aload_n 0, 1) := by decide +kernel
theorem dX4_init_40 : decode cX4_init 40 = .ok (.iconst 0, 1) := by decide +kernel
theorem dX4_init_41 : decode cX4_init 41 = .ok (.putfield 33, 3) := by decide +kernel
theorem dX4_init_44 : decode cX4_init 44 = .ok (.aload_n 0, 1) := by decide +kernel
theorem dX4_init_45 : decode cX4_init 45 = .ok (.iconst 0, 1) := by decide +kernel
theorem dX4_init_46 : decode cX4_init 46 = .ok (.putfield 36, 3) := by decide +kernel
theorem dX4_init_49 : decode cX4_init 49 = .ok (.aload_n 0, 1) := by decide +kernel
theorem dX4_init_50 : decode cX4_init 50 = .ok (.new 39, 3) := by decide +kernel
theorem dX4_init_53 : decode cX4_init 53 = .ok (.dup, 1) := by decide +kernel
theorem dX4_init_54 : decode cX4_init 54 = .ok (.bipush 8, 2) := by decide +kernel
theorem dX4_init_56 : decode cX4_init 56 = .ok (.invokespecial 41, 3) := by decide +kernel
theorem dX4_init_59 : decode cX4_init 59 = .ok (.putfield 44, 3) := by decide +kernel
theorem dX4_init_62 : decode cX4_init 62 = .ok (.aload_n 0, 1) := by decide +kernel
theorem dX4_init_63 : decode cX4_init 63 = .ok (.new 39, 3) := by decide +kernel
theorem dX4_init_66 : decode cX4_init 66 = .ok (.dup, 1) := by decide +kernel
theorem dX4_init_67 : decode cX4_init 67 = .ok (.bipush 8, 2) := by decide +kernel
theorem dX4_init_69 : decode cX4_init 69 = .ok (.invokespecial 41, 3) := by decide +kernel
theorem dX4_init_72 : decode cX4_init 72 = .ok (.putfield 48, 3) := by decide +kernel
theorem dX4_init_75 : decode cX4_init 75 = .ok (.aload_n 0, 1) := by decide +kernel
theorem dX4_init_76 : decode cX4_init 76 = .ok (.new 39, 3) := by decide +kernel
theorem dX4_init_79 : decode cX4_init 79 = .ok (.dup, 1) := by decide +kernel
theorem dX4_init_80 : decode cX4_init 80 = .ok (.bipush 8, 2) := by decide +kernel
theorem dX4_init_82 : decode cX4_init 82 = .ok (.invokespecial 41, 3) := by decide +kernel
theorem dX4_init_85 : decode cX4_init 85 = .ok (.putfield 51, 3) := by decide +kernel
theorem dX4_init_88 : decode cX4_init 88 = .ok (.aload_n 0, 1) := by decide +kernel
theorem dX4_init_89 : decode cX4_init 89 = .ok (.new 39, 3) := by decide +kernel
theorem dX4_init_92 : decode cX4_init 92 = .ok (.dup, 1) := by decide +kernel
theorem dX4_init_93 : decode cX4_init 93 = .ok (.bipush 8, 2) := by decide +kernel
theorem dX4_init_95 : decode cX4_init 95 = .ok (.invokespecial 41, 3) := by decide +kernel
theorem dX4_init_98 : decode cX4_init 98 = .ok (.putfield 54, 3) := by decide +kernel
theorem dX4_init_101 : decode cX4_init 101 = .ok (.aload_n 0, 1) := by decide +kernel
theorem dX4_init_102 : decode cX4_init 102 = .ok (.new 39, 3) := by decide +kernel
theorem dX4_init_105 : decode cX4_init 105 = .ok (.dup, 1) := by decide +kernel
theorem dX4_init_106 : decode cX4_init 106 = .ok (.bipush 8, 2) := by decide +kernel
theorem dX4_init_108 : decode cX4_init 108 = .ok (.invokespecial 41, 3) := by decide +kernel
theorem dX4_init_111 : decode cX4_init 111 = .ok (.putfield 57, 3) := by decide +kernel
theorem dX4_init_114 : decode cX4_init 114 = .ok (.return_, 1) := by decide +kernel
theorem dX4_tell_0 : decode cX4_tell 0 = .ok (.aload_n 0, 1) := by decide +kernel
theorem dX4_tell_1 : decode cX4_tell 1 = .ok (.iload_n 2, 1) := by decide +kernel
theorem dX4_tell_2 : decode cX4_tell 2 = .ok (.putfield 9, 3) := by decide +kernel
theorem dX4_tell_5 : decode cX4_tell 5 = .ok (.aload_n 0, 1) := by decide +kernel
theorem dX4_tell_6 : decode cX4_tell 6 = .ok (.iload_n 3, 1) := by decide +kernel
theorem dX4_tell_7 : decode cX4_tell 7 = .ok (.putfield 15, 3) := by decide +kernel
theorem dX4_tell_10 : decode cX4_tell 10 = .ok (.aload_n 0, 1) := by decide +kernel
theorem dX4_tell_11 : decode cX4_tell 11 = .ok (.iload 4, 2) := by decide +kernel
theorem dX4_tell_13 : decode cX4_tell 13 = .ok (.putfield 18, 3) := by decide +kernel
theorem dX4_tell_16 : decode cX4_tell 16 = .ok (.aload_n 0, 1) := by decide +kernel
theorem dX4_tell_17 : decode cX4_tell 17 = .ok (.iload 5, 2) := by decide +kernel
theorem dX4_tell_19 : decode cX4_tell 19 = .ok (.putfield 21, 3) := by decide +kernel
theorem dX4_tell_22 : decode cX4_tell 22 = .ok (.aload_n 0, 1) := by decide +kernel
theorem dX4_tell_23 : decode cX4_tell 23 = .ok (.aload_n 1, 1) := by decide +kernel
theorem dX4_tell_24 : decode cX4_tell 24 = .ok (.getfield 60, 3) := by decide +kernel
theorem dX4_tell_27 : decode cX4_tell 27 = .ok (.putfield 24, 3) := by decide +kernel
theorem dX4_tell_30 : decode cX4_tell 30 = .ok (.aload_n 0, 1) := by decide +kernel
theorem dX4_tell_31 : decode cX4_tell 31 = .ok (.aload_n 1, 1) := by decide +kernel
theorem dX4_tell_32 : decode cX4_tell 32 = .ok (.getfield 63, 3) := by decide +kernel
theorem dX4_tell_35 : decode cX4_tell 35 = .ok (.putfield 27, 3) := by decide +kernel
theorem dX4_tell_38 : decode cX4_tell 38 = .ok (.aload_n 0, 1) := by decide +kernel
theorem dX4_tell_39 : decode cX4_tell 39 = .ok (.iconst 0, 1) := by decide +kernel
theorem dX4_tell_40 : decode cX4_tell 40 = .ok (.putfield 30, 3) := by decide +kernel
theorem dX4_tell_43 : decode cX4_tell 43 = .ok (.return_, 1) := by decide +kernel
set_option maxRecDepth 20000 in
theorem ggX4_go_X0_lockAt : GoodIn wsX4_go wsX0_lockAt := goodIn_r _ [19, 20, 87, 88, 89, 90, 91, 92, 93, 94, 95, 96, 97, 98, 99, 100] (by decide +kernel) (by decide +kernel)
set_option maxRecDepth 20000 in
theorem gX4_go_X0_lockAt : GoodIn wsX4_go (wsV RX4 67 RX0 yX0_lockAt wsX0_lockAt) := goodIn_app (goodIn_of _ (by decide +kernel)) ggX4_go_X0_lockAt
set_option maxRecDepth 20000 in
theorem ggX4_go_X2_get : GoodIn wsX4_go wsX2_get := goodIn_r _ [25, 26, 101] (by decide +kernel) (by decide +kernel)
set_option maxRecDepth 20000 in
theorem gX4_go_X2_get : GoodIn wsX4_go (wsV RX4 74 RX2 yX2_get wsX2_get) := goodIn_app (goodIn_of _ (by decide +kernel)) ggX4_go_X2_get
set_option maxRecDepth 20000 in
theorem ggX4_go_X0_roadBehind : GoodIn wsX4_go wsX0_roadBehind := goodIn_r _ [30, 31, 32, 33, 34, 35, 36, 16, 17, 18, 19, 20, 37, 22, 23, 24, 25, 26, 87, 88, 89, 90, 91, 92, 93, 94, 95, 96, 97, 98, 99, 100, 101] (by decide +kernel) (by decide +kernel)
set_option maxRecDepth 20000 in
theorem gX4_go_X0_roadBehind : GoodIn wsX4_go (wsV RX4 78 RX0 yX0_roadBehind wsX0_roadBehind) := goodIn_app (goodIn_of _ (by decide +kernel)) ggX4_go_X0_roadBehind
set_option maxRecDepth 20000 in
theorem ggX4_go_X4_isRight : GoodIn wsX4_go wsX4_isRight := goodIn_r _ [42, 43, 4, 73, 74, 75, 76, 77, 78, 79, 80, 81, 82, 83, 84, 85, 86] (by decide +kernel) (by decide +kernel)
set_option maxRecDepth 20000 in
theorem gX4_go_X4_isRight : GoodIn wsX4_go (wsV RX4 81 RX4 yX4_isRight wsX4_isRight) := goodIn_app (goodIn_of _ (by decide +kernel)) ggX4_go_X4_isRight
set_option maxRecDepth 20000 in
theorem ggX4_go_X1_readyMinutes : GoodIn wsX4_go wsX1_readyMinutes := goodIn_r _ [47] (by decide +kernel) (by decide +kernel)
set_option maxRecDepth 20000 in
theorem gX4_go_X1_readyMinutes : GoodIn wsX4_go (va_wsS RX4 85 yX1_readyMinutes wsX1_readyMinutes) := goodIn_app (goodIn_of _ (by decide +kernel)) ggX4_go_X1_readyMinutes
set_option maxRecDepth 20000 in
theorem ggX4_go_X2_put : GoodIn wsX4_go wsX2_put := goodIn_r _ [51, 26, 101] (by decide +kernel) (by decide +kernel)
set_option maxRecDepth 20000 in
theorem gX4_go_X2_put : GoodIn wsX4_go (wsV RX4 90 RX2 yX2_put wsX2_put) := goodIn_app (goodIn_of _ (by decide +kernel)) ggX4_go_X2_put
set_option maxRecDepth 20000 in
theorem ggX4_go_X4_aheadComes : GoodIn wsX4_go wsX4_aheadComes := goodIn_r _ [55, 11, 56, 8, 57, 58, 34, 59, 10, 21, 22, 23, 24, 25, 26, 60, 61, 62, 73, 74, 75, 76, 77, 78, 79, 80, 81, 82, 83, 84, 85, 86, 101] (by decide +kernel) (by decide +kernel)
set_option maxRecDepth 20000 in
theorem gX4_go_X4_aheadComes : GoodIn wsX4_go (wsV RX4 94 RX4 yX4_aheadComes wsX4_aheadComes) := goodIn_app (goodIn_of _ (by decide +kernel)) ggX4_go_X4_aheadComes
set_option maxRecDepth 20000 in
theorem ggX4_go_X1_staysMinutes : GoodIn wsX4_go wsX1_staysMinutes := goodIn_r _ [65] (by decide +kernel) (by decide +kernel)
set_option maxRecDepth 20000 in
theorem gX4_go_X1_staysMinutes : GoodIn wsX4_go (va_wsS RX4 97 yX1_staysMinutes wsX1_staysMinutes) := goodIn_app (goodIn_of _ (by decide +kernel)) ggX4_go_X1_staysMinutes
set_option maxRecDepth 20000 in
theorem ggX4_go_X4_enterBehind : GoodIn wsX4_go wsX4_enterBehind := goodIn_r _ [69, 8, 7, 11, 12, 57, 58, 34, 59, 21, 22, 23, 24, 25, 26, 48, 49, 50, 51, 73, 74, 75, 76, 77, 78, 79, 80, 81, 82, 83, 84, 85, 86, 101] (by decide +kernel) (by decide +kernel)
set_option maxRecDepth 20000 in
theorem gX4_go_X4_enterBehind : GoodIn wsX4_go (wsV RX4 100 RX4 yX4_enterBehind wsX4_enterBehind) := goodIn_app (goodIn_of _ (by decide +kernel)) ggX4_go_X4_enterBehind
set_option maxRecDepth 20000 in
theorem ggX4_go_X1_passedMinutes : GoodIn wsX4_go wsX1_passedMinutes := goodIn_r _ [72] (by decide +kernel) (by decide +kernel)
set_option maxRecDepth 20000 in
theorem gX4_go_X1_passedMinutes : GoodIn wsX4_go (va_wsS RX4 104 yX1_passedMinutes wsX1_passedMinutes) := goodIn_app (goodIn_of _ (by decide +kernel)) ggX4_go_X1_passedMinutes
theorem dX4_go_0 : decode cX4_go 0 = .ok (.aload_n 0, 1) := by decide +kernel
theorem dX4_go_1 : decode cX4_go 1 = .ok (.iconst 0, 1) := by decide +kernel
theorem dX4_go_2 : decode cX4_go 2 = .ok (.putfield 33, 3) := by decide +kernel
theorem dX4_go_5 : decode cX4_go 5 = .ok (.aload_n 0, 1) := by decide +kernel
theorem dX4_go_6 : decode cX4_go 6 = .ok (.iconst 0, 1) := by decide +kernel
theorem dX4_go_7 : decode cX4_go 7 = .ok (.putfield 36, 3) := by decide +kernel
theorem dX4_go_10 : decode cX4_go 10 = .ok (.iconst 0, 1) := by decide +kernel
theorem dX4_go_11 : decode cX4_go 11 = .ok (.istore_n 2, 1) := by decide +kernel
theorem dX4_go_12 : decode cX4_go 12 = .ok (.iload_n 2, 1) := by decide +kernel
theorem dX4_go_13 : decode cX4_go 13 = .ok (.aload_n 1, 1) := by decide +kernel
theorem dX4_go_14 : decode cX4_go 14 = .ok (.getfield 64, 3) := by decide +kernel
theorem dX4_go_17 : decode cX4_go 17 = .ok (.if_icmp .ge 270, 3) := by decide +kernel
theorem dX4_go_20 : decode cX4_go 20 = .ok (.aload_n 1, 1) := by decide +kernel
theorem dX4_go_21 : decode cX4_go 21 = .ok (.aload_n 0, 1) := by decide +kernel
theorem dX4_go_22 : decode cX4_go 22 = .ok (.getfield 9, 3) := by decide +kernel
theorem dX4_go_25 : decode cX4_go 25 = .ok (.iload_n 2, 1) := by decide +kernel
theorem dX4_go_26 : decode cX4_go 26 = .ok (.invokevirtual 67, 3) := by decide +kernel
theorem dX4_go_29 : decode cX4_go 29 = .ok (.istore_n 3, 1) := by decide +kernel
theorem dX4_go_30 : decode cX4_go 30 = .ok (.aload_n 1, 1) := by decide +kernel
theorem dX4_go_31 : decode cX4_go 31 = .ok (.getfield 71, 3) := by decide +kernel
theorem dX4_go_34 : decode cX4_go 34 = .ok (.iload_n 3, 1) := by decide +kernel
theorem dX4_go_35 : decode cX4_go 35 = .ok (.invokevirtual 74, 3) := by decide +kernel
theorem dX4_go_38 : decode cX4_go 38 = .ok (.istore 4, 2) := by decide +kernel
theorem dX4_go_40 : decode cX4_go 40 = .ok (.iload_n 2, 1) := by decide +kernel
theorem dX4_go_41 : decode cX4_go 41 = .ok (.ifCond .ne 7, 3) := by decide +kernel
theorem dX4_go_44 : decode cX4_go 44 = .ok (.iconst 0, 1) := by decide +kernel
theorem dX4_go_45 : decode cX4_go 45 = .ok (.goto 14, 3) := by decide +kernel
theorem dX4_go_48 : decode cX4_go 48 = .ok (.aload_n 1, 1) := by decide +kernel
theorem dX4_go_49 : decode cX4_go 49 = .ok (.aload_n 0, 1) := by decide +kernel
theorem dX4_go_50 : decode cX4_go 50 = .ok (.getfield 9, 3) := by decide +kernel
theorem dX4_go_53 : decode cX4_go 53 = .ok (.iload_n 2, 1) := by decide +kernel
theorem dX4_go_54 : decode cX4_go 54 = .ok (.iconst 1, 1) := by decide +kernel
theorem dX4_go_55 : decode cX4_go 55 = .ok (.isub, 1) := by decide +kernel
theorem dX4_go_56 : decode cX4_go 56 = .ok (.invokevirtual 78, 3) := by decide +kernel
theorem dX4_go_59 : decode cX4_go 59 = .ok (.istore 5, 2) := by decide +kernel
theorem dX4_go_61 : decode cX4_go 61 = .ok (.aload_n 0, 1) := by decide +kernel
theorem dX4_go_62 : decode cX4_go 62 = .ok (.iload_n 3, 1) := by decide +kernel
theorem dX4_go_63 : decode cX4_go 63 = .ok (.invokevirtual 81, 3) := by decide +kernel
theorem dX4_go_66 : decode cX4_go 66 = .ok (.istore 6, 2) := by decide +kernel
theorem dX4_go_68 : decode cX4_go 68 = .ok (.iload 4, 2) := by decide +kernel
theorem dX4_go_70 : decode cX4_go 70 = .ok (.aload_n 0, 1) := by decide +kernel
theorem dX4_go_71 : decode cX4_go 71 = .ok (.getfield 24, 3) := by decide +kernel
theorem dX4_go_74 : decode cX4_go 74 = .ok (.invokestatic 85, 3) := by decide +kernel
theorem dX4_go_77 : decode cX4_go 77 = .ok (.istore 7, 2) := by decide +kernel
theorem dX4_go_79 : decode cX4_go 79 = .ok (.aload_n 0, 1) := by decide +kernel
theorem dX4_go_80 : decode cX4_go 80 = .ok (.getfield 57, 3) := by decide +kernel
theorem dX4_go_83 : decode cX4_go 83 = .ok (.iload_n 2, 1) := by decide +kernel
theorem dX4_go_84 : decode cX4_go 84 = .ok (.iload 6, 2) := by decide +kernel
theorem dX4_go_86 : decode cX4_go 86 = .ok (.ifCond .eq 7, 3) := by decide +kernel
theorem dX4_go_89 : decode cX4_go 89 = .ok (.iconst 0, 1) := by decide +kernel
theorem dX4_go_90 : decode cX4_go 90 = .ok (.goto 4, 3) := by decide +kernel
theorem dX4_go_93 : decode cX4_go 93 = .ok (.iconst 1, 1) := by decide +kernel
theorem dX4_go_94 : decode cX4_go 94 = .ok (.invokevirtual 90, 3) := by decide +kernel
theorem dX4_go_97 : decode cX4_go 97 = .ok (.aload_n 0, 1) := by decide +kernel
theorem dX4_go_98 : decode cX4_go 98 = .ok (.getfield 44, 3) := by decide +kernel
theorem dX4_go_101 : decode cX4_go 101 = .ok (.iload_n 2, 1) := by decide +kernel
theorem dX4_go_102 : decode cX4_go 102 = .ok (.iload_n 2, 1) := by decide +kernel
theorem dX4_go_103 : decode cX4_go 103 = .ok (.ifCond .ne 7, 3) := by decide +kernel
theorem dX4_go_106 : decode cX4_go 106 = .ok (.iconst 0, 1) := by decide +kernel
theorem dX4_go_107 : decode cX4_go 107 = .ok (.goto 16, 3) := by decide +kernel
theorem dX4_go_110 : decode cX4_go 110 = .ok (.aload_n 0, 1) := by decide +kernel
theorem dX4_go_111 : decode cX4_go 111 = .ok (.getfield 51, 3) := by decide +kernel
theorem dX4_go_114 : decode cX4_go 114 = .ok (.iload_n 2, 1) := by decide +kernel
theorem dX4_go_115 : decode cX4_go 115 = .ok (.iconst 1, 1) := by decide +kernel
theorem dX4_go_116 : decode cX4_go 116 = .ok (.isub, 1) := by decide +kernel
theorem dX4_go_117 : decode cX4_go 117 = .ok (.invokevirtual 74, 3) := by decide +kernel
theorem dX4_go_120 : decode cX4_go 120 = .ok (.iload 5, 2) := by decide +kernel
theorem dX4_go_122 : decode cX4_go 122 = .ok (.iadd, 1) := by decide +kernel
theorem dX4_go_123 : decode cX4_go 123 = .ok (.invokevirtual 90, 3) := by decide +kernel
theorem dX4_go_126 : decode cX4_go 126 = .ok (.aload_n 0, 1) := by decide +kernel
theorem dX4_go_127 : decode cX4_go 127 = .ok (.getfield 15, 3) := by decide +kernel
theorem dX4_go_130 : decode cX4_go 130 = .ok (.ifCond .ne 43, 3) := by decide +kernel
theorem dX4_go_133 : decode cX4_go 133 = .ok (.aload_n 0, 1) := by decide +kernel
theorem dX4_go_134 : decode cX4_go 134 = .ok (.getfield 54, 3) := by decide +kernel
theorem dX4_go_137 : decode cX4_go 137 = .ok (.iload_n 2, 1) := by decide +kernel
theorem dX4_go_138 : decode cX4_go 138 = .ok (.iconst (-1), 1) := by decide +kernel
theorem dX4_go_139 : decode cX4_go 139 = .ok (.invokevirtual 90, 3) := by decide +kernel
theorem dX4_go_142 : decode cX4_go 142 = .ok (.aload_n 0, 1) := by decide +kernel
theorem dX4_go_143 : decode cX4_go 143 = .ok (.getfield 48, 3) := by decide +kernel
theorem dX4_go_146 : decode cX4_go 146 = .ok (.iload_n 2, 1) := by decide +kernel
theorem dX4_go_147 : decode cX4_go 147 = .ok (.aload_n 0, 1) := by decide +kernel
theorem dX4_go_148 : decode cX4_go 148 = .ok (.getfield 44, 3) := by decide +kernel
theorem dX4_go_151 : decode cX4_go 151 = .ok (.iload_n 2, 1) := by decide +kernel
theorem dX4_go_152 : decode cX4_go 152 = .ok (.invokevirtual 74, 3) := by decide +kernel
theorem dX4_go_155 : decode cX4_go 155 = .ok (.iload 6, 2) := by decide +kernel
theorem dX4_go_157 : decode cX4_go 157 = .ok (.ifCond .eq 7, 3) := by decide +kernel
theorem dX4_go_160 : decode cX4_go 160 = .ok (.iconst 0, 1) := by decide +kernel
theorem dX4_go_161 : decode cX4_go 161 = .ok (.goto 5, 3) := by decide +kernel
theorem dX4_go_164 : decode cX4_go 164 = .ok (.iload 7, 2) := by decide +kernel
theorem dX4_go_166 : decode cX4_go 166 = .ok (.iadd, 1) := by decide +kernel
theorem dX4_go_167 : decode cX4_go 167 = .ok (.invokevirtual 90, 3) := by decide +kernel
theorem dX4_go_170 : decode cX4_go 170 = .ok (.goto 42, 3) := by decide +kernel
theorem dX4_go_173 : decode cX4_go 173 = .ok (.aload_n 0, 1) := by decide +kernel
theorem dX4_go_174 : decode cX4_go 174 = .ok (.getfield 54, 3) := by decide +kernel
theorem dX4_go_177 : decode cX4_go 177 = .ok (.iload_n 2, 1) := by decide +kernel
theorem dX4_go_178 : decode cX4_go 178 = .ok (.aload_n 0, 1) := by decide +kernel
theorem dX4_go_179 : decode cX4_go 179 = .ok (.iload_n 2, 1) := by decide +kernel
theorem dX4_go_180 : decode cX4_go 180 = .ok (.iload 5, 2) := by decide +kernel
theorem dX4_go_182 : decode cX4_go 182 = .ok (.invokevirtual 94, 3) := by decide +kernel
theorem dX4_go_185 : decode cX4_go 185 = .ok (.iload 6, 2) := by decide +kernel
theorem dX4_go_187 : decode cX4_go 187 = .ok (.ifCond .eq 7, 3) := by decide +kernel
theorem dX4_go_190 : decode cX4_go 190 = .ok (.iconst 0, 1) := by decide +kernel
theorem dX4_go_191 : decode cX4_go 191 = .ok (.goto 5, 3) := by decide +kernel
theorem dX4_go_194 : decode cX4_go 194 = .ok (.iload 7, 2) := by decide +kernel
theorem dX4_go_196 : decode cX4_go 196 = .ok (.iadd, 1) := by decide +kernel
theorem dX4_go_197 : decode cX4_go 197 = .ok (.invokevirtual 90, 3) := by decide +kernel
theorem dX4_go_200 : decode cX4_go 200 = .ok (.aload_n 0, 1) := by decide +kernel
theorem dX4_go_201 : decode cX4_go 201 = .ok (.iload_n 2, 1) := by decide +kernel
theorem dX4_go_202 : decode cX4_go 202 = .ok (.iload 7, 2) := by decide +kernel
theorem dX4_go_204 : decode cX4_go 204 = .ok (.iload 4, 2) := by decide +kernel
theorem dX4_go_206 : decode cX4_go 206 = .ok (.invokestatic 97, 3) := by decide +kernel
theorem dX4_go_209 : decode cX4_go 209 = .ok (.invokevirtual 100, 3) := by decide +kernel
theorem dX4_go_212 : decode cX4_go 212 = .ok (.aload_n 0, 1) := by decide +kernel
theorem dX4_go_213 : decode cX4_go 213 = .ok (.getfield 51, 3) := by decide +kernel
theorem dX4_go_216 : decode cX4_go 216 = .ok (.iload_n 2, 1) := by decide +kernel
theorem dX4_go_217 : decode cX4_go 217 = .ok (.aload_n 0, 1) := by decide +kernel
theorem dX4_go_218 : decode cX4_go 218 = .ok (.getfield 48, 3) := by decide +kernel
theorem dX4_go_221 : decode cX4_go 221 = .ok (.iload_n 2, 1) := by decide +kernel
theorem dX4_go_222 : decode cX4_go 222 = .ok (.invokevirtual 74, 3) := by decide +kernel
theorem dX4_go_225 : decode cX4_go 225 = .ok (.iload 4, 2) := by decide +kernel
theorem dX4_go_227 : decode cX4_go 227 = .ok (.aload_n 0, 1) := by decide +kernel
theorem dX4_go_228 : decode cX4_go 228 = .ok (.getfield 24, 3) := by decide +kernel
theorem dX4_go_231 : decode cX4_go 231 = .ok (.invokestatic 104, 3) := by decide +kernel
theorem dX4_go_234 : decode cX4_go 234 = .ok (.iadd, 1) := by decide +kernel
theorem dX4_go_235 : decode cX4_go 235 = .ok (.aload_n 0, 1) := by decide +kernel
theorem dX4_go_236 : decode cX4_go 236 = .ok (.getfield 30, 3) := by decide +kernel
theorem dX4_go_239 : decode cX4_go 239 = .ok (.iadd, 1) := by decide +kernel
theorem dX4_go_240 : decode cX4_go 240 = .ok (.iconst 2, 1) := by decide +kernel
theorem dX4_go_241 : decode cX4_go 241 = .ok (.aload_n 0, 1) := by decide +kernel
theorem dX4_go_242 : decode cX4_go 242 = .ok (.getfield 21, 3) := by decide +kernel
theorem dX4_go_245 : decode cX4_go 245 = .ok (.imul, 1) := by decide +kernel
theorem dX4_go_246 : decode cX4_go 246 = .ok (.iadd, 1) := by decide +kernel
theorem dX4_go_247 : decode cX4_go 247 = .ok (.invokevirtual 90, 3) := by decide +kernel
theorem dX4_go_250 : decode cX4_go 250 = .ok (.aload_n 0, 1) := by decide +kernel
theorem dX4_go_251 : decode cX4_go 251 = .ok (.aload_n 0, 1) := by decide +kernel
theorem dX4_go_252 : decode cX4_go 252 = .ok (.getfield 51, 3) := by decide +kernel
theorem dX4_go_255 : decode cX4_go 255 = .ok (.iload_n 2, 1) := by decide +kernel
theorem dX4_go_256 : decode cX4_go 256 = .ok (.invokevirtual 74, 3) := by decide +kernel
theorem dX4_go_259 : decode cX4_go 259 = .ok (.putfield 33, 3) := by decide +kernel
theorem dX4_go_262 : decode cX4_go 262 = .ok (.aload_n 0, 1) := by decide +kernel
theorem dX4_go_263 : decode cX4_go 263 = .ok (.dup, 1) := by decide +kernel
theorem dX4_go_264 : decode cX4_go 264 = .ok (.getfield 36, 3) := by decide +kernel
theorem dX4_go_267 : decode cX4_go 267 = .ok (.iconst 1, 1) := by decide +kernel
theorem dX4_go_268 : decode cX4_go 268 = .ok (.aload_n 0, 1) := by decide +kernel
theorem dX4_go_269 : decode cX4_go 269 = .ok (.getfield 57, 3) := by decide +kernel
theorem dX4_go_272 : decode cX4_go 272 = .ok (.iload_n 2, 1) := by decide +kernel
theorem dX4_go_273 : decode cX4_go 273 = .ok (.invokevirtual 74, 3) := by decide +kernel
theorem dX4_go_276 : decode cX4_go 276 = .ok (.iadd, 1) := by decide +kernel
theorem dX4_go_277 : decode cX4_go 277 = .ok (.iadd, 1) := by decide +kernel
theorem dX4_go_278 : decode cX4_go 278 = .ok (.putfield 36, 3) := by decide +kernel
theorem dX4_go_281 : decode cX4_go 281 = .ok (.iinc 2 1, 3) := by decide +kernel
theorem dX4_go_284 : decode cX4_go 284 = .ok (.goto (-272), 3) := by decide +kernel
theorem dX4_go_287 : decode cX4_go 287 = .ok (.aload_n 0, 1) := by decide +kernel
theorem dX4_go_288 : decode cX4_go 288 = .ok (.getfield 33, 3) := by decide +kernel
theorem dX4_go_291 : decode cX4_go 291 = .ok (.ireturn, 1) := by decide +kernel
set_option maxRecDepth 20000 in
theorem ggX4_goWithRight_X4_go : GoodIn wsX4_goWithRight wsX4_go := goodIn_r _ [7, 8, 9, 10, 2, 11, 12, 13, 14, 15, 16, 17, 18, 19, 20, 21, 22, 23, 24, 25, 26, 27, 28, 29, 30, 31, 32, 33, 34, 35, 36, 37, 38, 39, 40, 41, 42, 43, 44, 45, 46, 6, 47, 1, 48, 49, 50, 51, 52, 53, 54, 55, 56, 57, 58, 59, 60, 61, 62, 63, 64, 65, 66, 67, 68, 69, 70, 71, 72, 73, 74, 75, 76, 77, 78, 79, 80, 81, 82, 83, 84, 85, 86, 87, 88, 89, 90, 91, 92, 93, 94, 95, 96, 97, 98, 99, 100, 101, 102, 103, 104, 105] (by decide +kernel) (by decide +kernel)
set_option maxRecDepth 20000 in
theorem gX4_goWithRight_X4_go : GoodIn wsX4_goWithRight (wsV RX4 107 RX4 yX4_go wsX4_go) := goodIn_app (goodIn_of _ (by decide +kernel)) ggX4_goWithRight_X4_go
theorem dX4_goWithRight_0 : decode cX4_goWithRight 0 = .ok (.aload_n 0, 1) := by decide +kernel
theorem dX4_goWithRight_1 : decode cX4_goWithRight 1 = .ok (.getfield 27, 3) := by decide +kernel
theorem dX4_goWithRight_4 : decode cX4_goWithRight 4 = .ok (.istore_n 3, 1) := by decide +kernel
theorem dX4_goWithRight_5 : decode cX4_goWithRight 5 = .ok (.aload_n 0, 1) := by decide +kernel
theorem dX4_goWithRight_6 : decode cX4_goWithRight 6 = .ok (.aload_n 0, 1) := by decide +kernel
theorem dX4_goWithRight_7 : decode cX4_goWithRight 7 = .ok (.getfield 9, 3) := by decide +kernel
theorem dX4_goWithRight_10 : decode cX4_goWithRight 10 = .ok (.ifCond .ne 14, 3) := by decide +kernel
theorem dX4_goWithRight_13 : decode cX4_goWithRight 13 = .ok (.aload_n 0, 1) := by decide +kernel
theorem dX4_goWithRight_14 : decode cX4_goWithRight 14 = .ok (.getfield 27, 3) := by decide +kernel
theorem dX4_goWithRight_17 : decode cX4_goWithRight 17 = .ok (.iload_n 2, 1) := by decide +kernel
theorem dX4_goWithRight_18 : decode cX4_goWithRight 18 = .ok (.iconst (-1), 1) := by decide +kernel
theorem dX4_goWithRight_19 : decode cX4_goWithRight 19 = .ok (.ixor, 1) := by decide +kernel
theorem dX4_goWithRight_20 : decode cX4_goWithRight 20 = .ok (.iand, 1) := by decide +kernel
theorem dX4_goWithRight_21 : decode cX4_goWithRight 21 = .ok (.goto 9, 3) := by decide +kernel
theorem dX4_goWithRight_24 : decode cX4_goWithRight 24 = .ok (.aload_n 0, 1) := by decide +kernel
theorem dX4_goWithRight_25 : decode cX4_goWithRight 25 = .ok (.getfield 27, 3) := by decide +kernel
theorem dX4_goWithRight_28 : decode cX4_goWithRight 28 = .ok (.iload_n 2, 1) := by decide +kernel
theorem dX4_goWithRight_29 : decode cX4_goWithRight 29 = .ok (.ior, 1) := by decide +kernel
theorem dX4_goWithRight_30 : decode cX4_goWithRight 30 = .ok (.putfield 27, 3) := by decide +kernel
theorem dX4_goWithRight_33 : decode cX4_goWithRight 33 = .ok (.aload_n 0, 1) := by decide +kernel
theorem dX4_goWithRight_34 : decode cX4_goWithRight 34 = .ok (.aload_n 1, 1) := by decide +kernel
theorem dX4_goWithRight_35 : decode cX4_goWithRight 35 = .ok (.invokevirtual 107, 3) := by decide +kernel
theorem dX4_goWithRight_38 : decode cX4_goWithRight 38 = .ok (.istore 4, 2) := by decide +kernel
theorem dX4_goWithRight_40 : decode cX4_goWithRight 40 = .ok (.aload_n 0, 1) := by decide +kernel
theorem dX4_goWithRight_41 : decode cX4_goWithRight 41 = .ok (.iload_n 3, 1) := by decide +kernel
theorem dX4_goWithRight_42 : decode cX4_goWithRight 42 = .ok (.putfield 27, 3) := by decide +kernel
theorem dX4_goWithRight_45 : decode cX4_goWithRight 45 = .ok (.iload 4, 2) := by decide +kernel
theorem dX4_goWithRight_47 : decode cX4_goWithRight 47 = .ok (.ireturn, 1) := by decide +kernel
set_option maxRecDepth 20000 in
theorem ggX4_standsBehind_X0_allLocks : GoodIn wsX4_standsBehind wsX0_allLocks := goodIn_r _ [6, 7, 22, 23, 24, 25, 26, 27, 28, 29, 30, 31, 32, 33, 34, 35] (by decide +kernel) (by decide +kernel)
set_option maxRecDepth 20000 in
theorem gX4_standsBehind_X0_allLocks : GoodIn wsX4_standsBehind (wsV RX4 111 RX0 yX0_allLocks wsX0_allLocks) := goodIn_app (goodIn_of _ (by decide +kernel)) ggX4_standsBehind_X0_allLocks
theorem dX4_standsBehind_0 : decode cX4_standsBehind 0 = .ok (.aload_n 0, 1) := by decide +kernel
theorem dX4_standsBehind_1 : decode cX4_standsBehind 1 = .ok (.getfield 9, 3) := by decide +kernel
theorem dX4_standsBehind_4 : decode cX4_standsBehind 4 = .ok (.ifCond .ne 10, 3) := by decide +kernel
theorem dX4_standsBehind_7 : decode cX4_standsBehind 7 = .ok (.aload_n 1, 1) := by decide +kernel
theorem dX4_standsBehind_8 : decode cX4_standsBehind 8 = .ok (.invokevirtual 111, 3) := by decide +kernel
theorem dX4_standsBehind_11 : decode cX4_standsBehind 11 = .ok (.goto 4, 3) := by decide +kernel
theorem dX4_standsBehind_14 : decode cX4_standsBehind 14 = .ok (.iconst 0, 1) := by decide +kernel
theorem dX4_standsBehind_15 : decode cX4_standsBehind 15 = .ok (.ireturn, 1) := by decide +kernel
theorem dX4_isRight_0 : decode cX4_isRight 0 = .ok (.aload_n 0, 1) := by decide +kernel
theorem dX4_isRight_1 : decode cX4_isRight 1 = .ok (.getfield 27, 3) := by decide +kernel
theorem dX4_isRight_4 : decode cX4_isRight 4 = .ok (.iload_n 1, 1) := by decide +kernel
theorem dX4_isRight_5 : decode cX4_isRight 5 = .ok (.ishr, 1) := by decide +kernel
theorem dX4_isRight_6 : decode cX4_isRight 6 = .ok (.iconst 1, 1) := by decide +kernel
theorem dX4_isRight_7 : decode cX4_isRight 7 = .ok (.iand, 1) := by decide +kernel
theorem dX4_isRight_8 : decode cX4_isRight 8 = .ok (.aload_n 0, 1) := by decide +kernel
theorem dX4_isRight_9 : decode cX4_isRight 9 = .ok (.getfield 9, 3) := by decide +kernel
theorem dX4_isRight_12 : decode cX4_isRight 12 = .ok (.if_icmp .ne 7, 3) := by decide +kernel
theorem dX4_isRight_15 : decode cX4_isRight 15 = .ok (.iconst 1, 1) := by decide +kernel
theorem dX4_isRight_16 : decode cX4_isRight 16 = .ok (.goto 4, 3) := by decide +kernel
theorem dX4_isRight_19 : decode cX4_isRight 19 = .ok (.iconst 0, 1) := by decide +kernel
theorem dX4_isRight_20 : decode cX4_isRight 20 = .ok (.ireturn, 1) := by decide +kernel
set_option maxRecDepth 20000 in
theorem ggX4_aheadComes_X2_get : GoodIn wsX4_aheadComes wsX2_get := goodIn_r _ [13, 14, 32] (by decide +kernel) (by decide +kernel)
set_option maxRecDepth 20000 in
theorem gX4_aheadComes_X2_get : GoodIn wsX4_aheadComes (wsV RX4 74 RX2 yX2_get wsX2_get) := goodIn_app (goodIn_of _ (by decide +kernel)) ggX4_aheadComes_X2_get
set_option maxRecDepth 20000 in
theorem ggX4_aheadComes_X5_halfCutUp : GoodIn wsX4_aheadComes wsX5_halfCutUp := goodIn_r _ [17] (by decide +kernel) (by decide +kernel)
set_option maxRecDepth 20000 in
theorem gX4_aheadComes_X5_halfCutUp_n120 : GoodIn wsX4_aheadComes (wsX5_halfCutUp) := ggX4_aheadComes_X5_halfCutUp
theorem dX4_aheadComes_0 : decode cX4_aheadComes 0 = .ok (.iload_n 1, 1) := by decide +kernel
theorem dX4_aheadComes_1 : decode cX4_aheadComes 1 = .ok (.ifCond .ne 5, 3) := by decide +kernel
theorem dX4_aheadComes_4 : decode cX4_aheadComes 4 = .ok (.iconst 0, 1) := by decide +kernel
theorem dX4_aheadComes_5 : decode cX4_aheadComes 5 = .ok (.ireturn, 1) := by decide +kernel
theorem dX4_aheadComes_6 : decode cX4_aheadComes 6 = .ok (.aload_n 0, 1) := by decide +kernel
theorem dX4_aheadComes_7 : decode cX4_aheadComes 7 = .ok (.getfield 54, 3) := by decide +kernel
theorem dX4_aheadComes_10 : decode cX4_aheadComes 10 = .ok (.iload_n 1, 1) := by decide +kernel
theorem dX4_aheadComes_11 : decode cX4_aheadComes 11 = .ok (.iconst 1, 1) := by decide +kernel
theorem dX4_aheadComes_12 : decode cX4_aheadComes 12 = .ok (.isub, 1) := by decide +kernel
theorem dX4_aheadComes_13 : decode cX4_aheadComes 13 = .ok (.invokevirtual 74, 3) := by decide +kernel
theorem dX4_aheadComes_16 : decode cX4_aheadComes 16 = .ok (.istore_n 3, 1) := by decide +kernel
theorem dX4_aheadComes_17 : decode cX4_aheadComes 17 = .ok (.iload_n 1, 1) := by decide +kernel
theorem dX4_aheadComes_18 : decode cX4_aheadComes 18 = .ok (.aload_n 0, 1) := by decide +kernel
theorem dX4_aheadComes_19 : decode cX4_aheadComes 19 = .ok (.getfield 18, 3) := by decide +kernel
theorem dX4_aheadComes_22 : decode cX4_aheadComes 22 = .ok (.if_icmp .lt 21, 3) := by decide +kernel
theorem dX4_aheadComes_25 : decode cX4_aheadComes 25 = .ok (.iload_n 3, 1) := by decide +kernel
theorem dX4_aheadComes_26 : decode cX4_aheadComes 26 = .ok (.aload_n 0, 1) := by decide +kernel
theorem dX4_aheadComes_27 : decode cX4_aheadComes 27 = .ok (.getfield 44, 3) := by decide +kernel
theorem dX4_aheadComes_30 : decode cX4_aheadComes 30 = .ok (.iload_n 1, 1) := by decide +kernel
theorem dX4_aheadComes_31 : decode cX4_aheadComes 31 = .ok (.aload_n 0, 1) := by decide +kernel
theorem dX4_aheadComes_32 : decode cX4_aheadComes 32 = .ok (.getfield 18, 3) := by decide +kernel
theorem dX4_aheadComes_35 : decode cX4_aheadComes 35 = .ok (.isub, 1) := by decide +kernel
theorem dX4_aheadComes_36 : decode cX4_aheadComes 36 = .ok (.invokevirtual 74, 3) := by decide +kernel
theorem dX4_aheadComes_39 : decode cX4_aheadComes 39 = .ok (.invokestatic 115, 3) := by decide +kernel
theorem dX4_aheadComes_42 : decode cX4_aheadComes 42 = .ok (.istore_n 3, 1) := by decide +kernel
theorem dX4_aheadComes_43 : decode cX4_aheadComes 43 = .ok (.iload_n 3, 1) := by decide +kernel
theorem dX4_aheadComes_44 : decode cX4_aheadComes 44 = .ok (.aload_n 0, 1) := by decide +kernel
theorem dX4_aheadComes_45 : decode cX4_aheadComes 45 = .ok (.getfield 15, 3) := by decide +kernel
theorem dX4_aheadComes_48 : decode cX4_aheadComes 48 = .ok (.iconst 2, 1) := by decide +kernel
theorem dX4_aheadComes_49 : decode cX4_aheadComes 49 = .ok (.if_icmp .ne 10, 3) := by decide +kernel
theorem dX4_aheadComes_52 : decode cX4_aheadComes 52 = .ok (.iload_n 2, 1) := by decide +kernel
theorem dX4_aheadComes_53 : decode cX4_aheadComes 53 = .ok (.invokestatic 120, 3) := by decide +kernel
theorem dX4_aheadComes_56 : decode cX4_aheadComes 56 = .ok (.goto 4, 3) := by decide +kernel
theorem dX4_aheadComes_59 : decode cX4_aheadComes 59 = .ok (.iload_n 2, 1) := by decide +kernel
theorem dX4_aheadComes_60 : decode cX4_aheadComes 60 = .ok (.iadd, 1) := by decide +kernel
theorem dX4_aheadComes_61 : decode cX4_aheadComes 61 = .ok (.ireturn, 1) := by decide +kernel
set_option maxRecDepth 20000 in
theorem ggX4_enterBehind_X2_get : GoodIn wsX4_enterBehind wsX2_get := goodIn_r _ [13, 14, 33] (by decide +kernel) (by decide +kernel)
set_option maxRecDepth 20000 in
theorem gX4_enterBehind_X2_get : GoodIn wsX4_enterBehind (wsV RX4 74 RX2 yX2_get wsX2_get) := goodIn_app (goodIn_of _ (by decide +kernel)) ggX4_enterBehind_X2_get
set_option maxRecDepth 20000 in
theorem ggX4_enterBehind_X2_put : GoodIn wsX4_enterBehind wsX2_put := goodIn_r _ [18, 14, 33] (by decide +kernel) (by decide +kernel)
set_option maxRecDepth 20000 in
theorem gX4_enterBehind_X2_put : GoodIn wsX4_enterBehind (wsV RX4 90 RX2 yX2_put wsX2_put) := goodIn_app (goodIn_of _ (by decide +kernel)) ggX4_enterBehind_X2_put
theorem dX4_enterBehind_0 : decode cX4_enterBehind 0 = .ok (.aload_n 0, 1) := by decide +kernel
theorem dX4_enterBehind_1 : decode cX4_enterBehind 1 = .ok (.getfield 44, 3) := by decide +kernel
theorem dX4_enterBehind_4 : decode cX4_enterBehind 4 = .ok (.iload_n 1, 1) := by decide +kernel
theorem dX4_enterBehind_5 : decode cX4_enterBehind 5 = .ok (.invokevirtual 74, 3) := by decide +kernel
theorem dX4_enterBehind_8 : decode cX4_enterBehind 8 = .ok (.istore 4, 2) := by decide +kernel
theorem dX4_enterBehind_10 : decode cX4_enterBehind 10 = .ok (.aload_n 0, 1) := by decide +kernel
theorem dX4_enterBehind_11 : decode cX4_enterBehind 11 = .ok (.getfield 57, 3) := by decide +kernel
theorem dX4_enterBehind_14 : decode cX4_enterBehind 14 = .ok (.iload_n 1, 1) := by decide +kernel
theorem dX4_enterBehind_15 : decode cX4_enterBehind 15 = .ok (.invokevirtual 74, 3) := by decide +kernel
theorem dX4_enterBehind_18 : decode cX4_enterBehind 18 = .ok (.ifCond .le 26, 3) := by decide +kernel
theorem dX4_enterBehind_21 : decode cX4_enterBehind 21 = .ok (.iload_n 3, 1) := by decide +kernel
theorem dX4_enterBehind_22 : decode cX4_enterBehind 22 = .ok (.ifCond .le 22, 3) := by decide +kernel
theorem dX4_enterBehind_25 : decode cX4_enterBehind 25 = .ok (.iload 4, 2) := by decide +kernel
theorem dX4_enterBehind_27 : decode cX4_enterBehind 27 = .ok (.aload_n 0, 1) := by decide +kernel
theorem dX4_enterBehind_28 : decode cX4_enterBehind 28 = .ok (.getfield 54, 3) := by decide +kernel
theorem dX4_enterBehind_31 : decode cX4_enterBehind 31 = .ok (.iload_n 1, 1) := by decide +kernel
theorem dX4_enterBehind_32 : decode cX4_enterBehind 32 = .ok (.invokevirtual 74, 3) := by decide +kernel
theorem dX4_enterBehind_35 : decode cX4_enterBehind 35 = .ok (.isub, 1) := by decide +kernel
theorem dX4_enterBehind_36 : decode cX4_enterBehind 36 = .ok (.iload_n 3, 1) := by decide +kernel
theorem dX4_enterBehind_37 : decode cX4_enterBehind 37 = .ok (.if_icmp .le 7, 3) := by decide +kernel
theorem dX4_enterBehind_40 : decode cX4_enterBehind 40 = .ok (.iconst 1, 1) := by decide +kernel
theorem dX4_enterBehind_41 : decode cX4_enterBehind 41 = .ok (.goto 4, 3) := by decide +kernel
theorem dX4_enterBehind_44 : decode cX4_enterBehind 44 = .ok (.iconst 0, 1) := by decide +kernel
theorem dX4_enterBehind_45 : decode cX4_enterBehind 45 = .ok (.istore 5, 2) := by decide +kernel
theorem dX4_enterBehind_47 : decode cX4_enterBehind 47 = .ok (.iload 5, 2) := by decide +kernel
theorem dX4_enterBehind_49 : decode cX4_enterBehind 49 = .ok (.ifCond .eq 27, 3) := by decide +kernel
theorem dX4_enterBehind_52 : decode cX4_enterBehind 52 = .ok (.aload_n 0, 1) := by decide +kernel
theorem dX4_enterBehind_53 : decode cX4_enterBehind 53 = .ok (.getfield 57, 3) := by decide +kernel
theorem dX4_enterBehind_56 : decode cX4_enterBehind 56 = .ok (.iload_n 1, 1) := by decide +kernel
theorem dX4_enterBehind_57 : decode cX4_enterBehind 57 = .ok (.iconst 2, 1) := by decide +kernel
theorem dX4_enterBehind_58 : decode cX4_enterBehind 58 = .ok (.invokevirtual 90, 3) := by decide +kernel
theorem dX4_enterBehind_61 : decode cX4_enterBehind 61 = .ok (.aload_n 0, 1) := by decide +kernel
theorem dX4_enterBehind_62 : decode cX4_enterBehind 62 = .ok (.getfield 48, 3) := by decide +kernel
theorem dX4_enterBehind_65 : decode cX4_enterBehind 65 = .ok (.iload_n 1, 1) := by decide +kernel
theorem dX4_enterBehind_66 : decode cX4_enterBehind 66 = .ok (.iload 4, 2) := by decide +kernel
theorem dX4_enterBehind_68 : decode cX4_enterBehind 68 = .ok (.iload_n 2, 1) := by decide +kernel
theorem dX4_enterBehind_69 : decode cX4_enterBehind 69 = .ok (.iadd, 1) := by decide +kernel
theorem dX4_enterBehind_70 : decode cX4_enterBehind 70 = .ok (.invokevirtual 90, 3) := by decide +kernel
theorem dX4_enterBehind_73 : decode cX4_enterBehind 73 = .ok (.goto 24, 3) := by decide +kernel
theorem dX4_enterBehind_76 : decode cX4_enterBehind 76 = .ok (.aload_n 0, 1) := by decide +kernel
theorem dX4_enterBehind_77 : decode cX4_enterBehind 77 = .ok (.getfield 48, 3) := by decide +kernel
theorem dX4_enterBehind_80 : decode cX4_enterBehind 80 = .ok (.iload_n 1, 1) := by decide +kernel
theorem dX4_enterBehind_81 : decode cX4_enterBehind 81 = .ok (.iload 4, 2) := by decide +kernel
theorem dX4_enterBehind_83 : decode cX4_enterBehind 83 = .ok (.aload_n 0, 1) := by decide +kernel
theorem dX4_enterBehind_84 : decode cX4_enterBehind 84 = .ok (.getfield 54, 3) := by decide +kernel
theorem dX4_enterBehind_87 : decode cX4_enterBehind 87 = .ok (.iload_n 1, 1) := by decide +kernel
theorem dX4_enterBehind_88 : decode cX4_enterBehind 88 = .ok (.invokevirtual 74, 3) := by decide +kernel
theorem dX4_enterBehind_91 : decode cX4_enterBehind 91 = .ok (.invokestatic 115, 3) := by decide +kernel
theorem dX4_enterBehind_94 : decode cX4_enterBehind 94 = .ok (.invokevirtual 90, 3) := by decide +kernel
theorem dX4_enterBehind_97 : decode cX4_enterBehind 97 = .ok (.return_, 1) := by decide +kernel
