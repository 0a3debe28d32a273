set_option maxRecDepth 20000 in
theorem ggX6_init_X6_begin : GoodIn wsX6_init wsX6_begin := goodIn_r _ [23] (by decide +kernel) (by decide +kernel)
set_option maxRecDepth 20000 in
theorem gX6_init_X6_begin : GoodIn wsX6_init (va_wsS RX6 54 yX6_begin wsX6_begin) := goodIn_app (goodIn_of _ (by decide +kernel)) ggX6_init_X6_begin
theorem dX6_init_0 : decode cX6_init 0 = .ok (.aload_n 0, 1) := by decide +kernel
theorem dX6_init_1 : decode cX6_init 1 = .ok (.invokespecial 1, 3) := by decide +kernel
theorem dX6_init_4 : decode cX6_init 4 = .ok (.aload_n 0, 1) := by decide +kernel
theorem dX6_init_5 : decode cX6_init 5 = .ok (.bipush 122, 2) := by decide +kernel
theorem dX6_init_7 : decode cX6_init 7 = .ok (.newarray .int, 2) := by decide +kernel
theorem dX6_init_9 : decode cX6_init 9 = .ok (.putfield 7, 3) := by decide +kernel
theorem dX6_init_12 : decode cX6_init 12 = .ok (.aload_n 0, 1) := by decide +kernel
theorem dX6_init_13 : decode cX6_init 13 = .ok (.sipush 244, 3) := by decide +kernel
theorem dX6_init_16 : decode cX6_init 16 = .ok (.newarray .int, 2) := by decide +kernel
theorem dX6_init_18 : decode cX6_init 18 = .ok (.putfield 13, 3) := by decide +kernel
theorem dX6_init_21 : decode cX6_init 21 = .ok (.aload_n 0, 1) := by decide +kernel
theorem dX6_init_22 : decode cX6_init 22 = .ok (.iconst 2, 1) := by decide +kernel
theorem dX6_init_23 : decode cX6_init 23 = .ok (.newarray .boolean, 2) := by decide +kernel
theorem dX6_init_25 : decode cX6_init 25 = .ok (.putfield 16, 3) := by decide +kernel
theorem dX6_init_28 : decode cX6_init 28 = .ok (.aload_n 0, 1) := by decide +kernel
theorem dX6_init_29 : decode cX6_init 29 = .ok (.iconst 3, 1) := by decide +kernel
theorem dX6_init_30 : decode cX6_init 30 = .ok (.newarray .int, 2) := by decide +kernel
theorem dX6_init_32 : decode cX6_init 32 = .ok (.putfield 20, 3) := by decide +kernel
theorem dX6_init_35 : decode cX6_init 35 = .ok (.aload_n 0, 1) := by decide +kernel
theorem dX6_init_36 : decode cX6_init 36 = .ok (.lconst 1, 1) := by decide +kernel
theorem dX6_init_37 : decode cX6_init 37 = .ok (.putfield 23, 3) := by decide +kernel
theorem dX6_init_40 : decode cX6_init 40 = .ok (.aload_n 0, 1) := by decide +kernel
theorem dX6_init_41 : decode cX6_init 41 = .ok (.bipush 8, 2) := by decide +kernel
theorem dX6_init_43 : decode cX6_init 43 = .ok (.newarray .int, 2) := by decide +kernel
theorem dX6_init_45 : decode cX6_init 45 = .ok (.putfield 27, 3) := by decide +kernel
theorem dX6_init_48 : decode cX6_init 48 = .ok (.aload_n 0, 1) := by decide +kernel
theorem dX6_init_49 : decode cX6_init 49 = .ok (.bipush 8, 2) := by decide +kernel
theorem dX6_init_51 : decode cX6_init 51 = .ok (.newarray .int, 2) := by decide +kernel
theorem dX6_init_53 : decode cX6_init 53 = .ok (.putfield 30, 3) := by decide +kernel
theorem dX6_init_56 : decode cX6_init 56 = .ok (.aload_n 0, 1) := by decide +kernel
theorem dX6_init_57 : decode cX6_init 57 = .ok (.bipush 8, 2) := by decide +kernel
theorem dX6_init_59 : decode cX6_init 59 = .ok (.newarray .int, 2) := by decide +kernel
theorem dX6_init_61 : decode cX6_init 61 = .ok (.putfield 33, 3) := by decide +kernel
theorem dX6_init_64 : decode cX6_init 64 = .ok (.aload_n 0, 1) := by decide +kernel
theorem dX6_init_65 : decode cX6_init 65 = .ok (.bipush 8, 2) := by decide +kernel
theorem dX6_init_67 : decode cX6_init 67 = .ok (.newarray .int, 2) := by decide +kernel
theorem dX6_init_69 : decode cX6_init 69 = .ok (.putfield 36, 3) := by decide +kernel
theorem dX6_init_72 : decode cX6_init 72 = .ok (.aload_n 0, 1) := by decide +kernel
theorem dX6_init_73 : decode cX6_init 73 = .ok (.bipush 8, 2) := by decide +kernel
theorem dX6_init_75 : decode cX6_init 75 = .ok (.newarray .int, 2) := by decide +kernel
theorem dX6_init_77 : decode cX6_init 77 = .ok (.putfield 39, 3) := by decide +kernel
theorem dX6_init_80 : decode cX6_init 80 = .ok (.aload_n 0, 1) := by decide +kernel
theorem dX6_init_81 : decode cX6_init 81 = .ok (.bipush 8, 2) := by decide +kernel
theorem dX6_init_83 : decode cX6_init 83 = .ok (.newarray .int, 2) := by decide +kernel
theorem dX6_init_85 : decode cX6_init 85 = .ok (.putfield 42, 3) := by decide +kernel
theorem dX6_init_88 : decode cX6_init 88 = .ok (.aload_n 0, 1) := by decide +kernel
theorem dX6_init_89 : decode cX6_init 89 = .ok (.sipush 150, 3) := by decide +kernel
theorem dX6_init_92 : decode cX6_init 92 = .ok (.newarray .int, 2) := by decide +kernel
theorem dX6_init_94 : decode cX6_init 94 = .ok (.putfield 45, 3) := by decide +kernel
theorem dX6_init_97 : decode cX6_init 97 = .ok (.aload_n 0, 1) := by decide +kernel
theorem dX6_init_98 : decode cX6_init 98 = .ok (.bipush 42, 2) := by decide +kernel
theorem dX6_init_100 : decode cX6_init 100 = .ok (.newarray .int, 2) := by decide +kernel
theorem dX6_init_102 : decode cX6_init 102 = .ok (.putfield 48, 3) := by decide +kernel
theorem dX6_init_105 : decode cX6_init 105 = .ok (.aload_n 0, 1) := by decide +kernel
theorem dX6_init_106 : decode cX6_init 106 = .ok (.iconst 3, 1) := by decide +kernel
theorem dX6_init_107 : decode cX6_init 107 = .ok (.newarray .int, 2) := by decide +kernel
theorem dX6_init_109 : decode cX6_init 109 = .ok (.putfield 51, 3) := by decide +kernel
theorem dX6_init_112 : decode cX6_init 112 = .ok (.aload_n 0, 1) := by decide +kernel
theorem dX6_init_113 : decode cX6_init 113 = .ok (.getfield 7, 3) := by decide +kernel
theorem dX6_init_116 : decode cX6_init 116 = .ok (.iconst 5, 1) := by decide +kernel
theorem dX6_init_117 : decode cX6_init 117 = .ok (.invokestatic 54, 3) := by decide +kernel
theorem dX6_init_120 : decode cX6_init 120 = .ok (.return_, 1) := by decide +kernel
theorem dX6_in_0 : decode cX6_in 0 = .ok (.lload_n 0, 1) := by decide +kernel
theorem dX6_in_1 : decode cX6_in 1 = .ok (.lload_n 2, 1) := by decide +kernel
theorem dX6_in_2 : decode cX6_in 2 = .ok (.lcmp, 1) := by decide +kernel
theorem dX6_in_3 : decode cX6_in 3 = .ok (.ifCond .lt 14, 3) := by decide +kernel
theorem dX6_in_6 : decode cX6_in 6 = .ok (.lload_n 0, 1) := by decide +kernel
theorem dX6_in_7 : decode cX6_in 7 = .ok (.lload 4, 2) := by decide +kernel
theorem dX6_in_9 : decode cX6_in 9 = .ok (.lcmp, 1) := by decide +kernel
theorem dX6_in_10 : decode cX6_in 10 = .ok (.ifCond .gt 7, 3) := by decide +kernel
theorem dX6_in_13 : decode cX6_in 13 = .ok (.iconst 1, 1) := by decide +kernel
theorem dX6_in_14 : decode cX6_in 14 = .ok (.goto 4, 3) := by decide +kernel
theorem dX6_in_17 : decode cX6_in 17 = .ok (.iconst 0, 1) := by decide +kernel
theorem dX6_in_18 : decode cX6_in 18 = .ok (.ireturn, 1) := by decide +kernel
theorem dX6_bad_0 : decode cX6_bad 0 = .ok (.aload_n 0, 1) := by decide +kernel
theorem dX6_bad_1 : decode cX6_bad 1 = .ok (.getfield 20, 3) := by decide +kernel
theorem dX6_bad_4 : decode cX6_bad 4 = .ok (.iconst 0, 1) := by decide +kernel
theorem dX6_bad_5 : decode cX6_bad 5 = .ok (.dup2, 1) := by decide +kernel
theorem dX6_bad_6 : decode cX6_bad 6 = .ok (.iaload, 1) := by decide +kernel
theorem dX6_bad_7 : decode cX6_bad 7 = .ok (.iconst 1, 1) := by decide +kernel
theorem dX6_bad_8 : decode cX6_bad 8 = .ok (.iadd, 1) := by decide +kernel
theorem dX6_bad_9 : decode cX6_bad 9 = .ok (.iastore, 1) := by decide +kernel
theorem dX6_bad_10 : decode cX6_bad 10 = .ok (.iload_n 1, 1) := by decide +kernel
theorem dX6_bad_11 : decode cX6_bad 11 = .ok (.ireturn, 1) := by decide +kernel
theorem dX6_no_0 : decode cX6_no 0 = .ok (.aload_n 0, 1) := by decide +kernel
theorem dX6_no_1 : decode cX6_no 1 = .ok (.getfield 20, 3) := by decide +kernel
theorem dX6_no_4 : decode cX6_no 4 = .ok (.iconst 1, 1) := by decide +kernel
theorem dX6_no_5 : decode cX6_no 5 = .ok (.dup2, 1) := by decide +kernel
theorem dX6_no_6 : decode cX6_no 6 = .ok (.iaload, 1) := by decide +kernel
theorem dX6_no_7 : decode cX6_no 7 = .ok (.iconst 1, 1) := by decide +kernel
theorem dX6_no_8 : decode cX6_no 8 = .ok (.iadd, 1) := by decide +kernel
theorem dX6_no_9 : decode cX6_no 9 = .ok (.iastore, 1) := by decide +kernel
theorem dX6_no_10 : decode cX6_no 10 = .ok (.bipush (-3), 2) := by decide +kernel
theorem dX6_no_12 : decode cX6_no 12 = .ok (.ireturn, 1) := by decide +kernel
theorem dX6_full_0 : decode cX6_full 0 = .ok (.aload_n 0, 1) := by decide +kernel
theorem dX6_full_1 : decode cX6_full 1 = .ok (.getfield 20, 3) := by decide +kernel
theorem dX6_full_4 : decode cX6_full 4 = .ok (.iconst 2, 1) := by decide +kernel
theorem dX6_full_5 : decode cX6_full 5 = .ok (.dup2, 1) := by decide +kernel
theorem dX6_full_6 : decode cX6_full 6 = .ok (.iaload, 1) := by decide +kernel
theorem dX6_full_7 : decode cX6_full 7 = .ok (.iconst 1, 1) := by decide +kernel
theorem dX6_full_8 : decode cX6_full 8 = .ok (.iadd, 1) := by decide +kernel
theorem dX6_full_9 : decode cX6_full 9 = .ok (.iastore, 1) := by decide +kernel
theorem dX6_full_10 : decode cX6_full 10 = .ok (.bipush (-4), 2) := by decide +kernel
theorem dX6_full_12 : decode cX6_full 12 = .ok (.ireturn, 1) := by decide +kernel
theorem dX6_bits_0 : decode cX6_bits 0 = .ok (.iconst 0, 1) := by decide +kernel
theorem dX6_bits_1 : decode cX6_bits 1 = .ok (.istore_n 1, 1) := by decide +kernel
theorem dX6_bits_2 : decode cX6_bits 2 = .ok (.iload_n 0, 1) := by decide +kernel
theorem dX6_bits_3 : decode cX6_bits 3 = .ok (.istore_n 2, 1) := by decide +kernel
theorem dX6_bits_4 : decode cX6_bits 4 = .ok (.iload_n 2, 1) := by decide +kernel
theorem dX6_bits_5 : decode cX6_bits 5 = .ok (.ifCond .le 16, 3) := by decide +kernel
theorem dX6_bits_8 : decode cX6_bits 8 = .ok (.iload_n 1, 1) := by decide +kernel
theorem dX6_bits_9 : decode cX6_bits 9 = .ok (.iload_n 2, 1) := by decide +kernel
theorem dX6_bits_10 : decode cX6_bits 10 = .ok (.iconst 1, 1) := by decide +kernel
theorem dX6_bits_11 : decode cX6_bits 11 = .ok (.iand, 1) := by decide +kernel
theorem dX6_bits_12 : decode cX6_bits 12 = .ok (.iadd, 1) := by decide +kernel
theorem dX6_bits_13 : decode cX6_bits 13 = .ok (.istore_n 1, 1) := by decide +kernel
theorem dX6_bits_14 : decode cX6_bits 14 = .ok (.iload_n 2, 1) := by decide +kernel
theorem dX6_bits_15 : decode cX6_bits 15 = .ok (.iconst 1, 1) := by decide +kernel
theorem dX6_bits_16 : decode cX6_bits 16 = .ok (.ishr, 1) := by decide +kernel
theorem dX6_bits_17 : decode cX6_bits 17 = .ok (.istore_n 2, 1) := by decide +kernel
theorem dX6_bits_18 : decode cX6_bits 18 = .ok (.goto (-14), 3) := by decide +kernel
theorem dX6_bits_21 : decode cX6_bits 21 = .ok (.iload_n 1, 1) := by decide +kernel
theorem dX6_bits_22 : decode cX6_bits 22 = .ok (.ireturn, 1) := by decide +kernel
theorem dX6_begin_0 : decode cX6_begin 0 = .ok (.iconst 0, 1) := by decide +kernel
theorem dX6_begin_1 : decode cX6_begin 1 = .ok (.istore_n 2, 1) := by decide +kernel
theorem dX6_begin_2 : decode cX6_begin 2 = .ok (.iload_n 2, 1) := by decide +kernel
theorem dX6_begin_3 : decode cX6_begin 3 = .ok (.bipush 42, 2) := by decide +kernel
theorem dX6_begin_5 : decode cX6_begin 5 = .ok (.if_icmp .ge 13, 3) := by decide +kernel
theorem dX6_begin_8 : decode cX6_begin 8 = .ok (.aload_n 0, 1) := by decide +kernel
theorem dX6_begin_9 : decode cX6_begin 9 = .ok (.iload_n 2, 1) := by decide +kernel
theorem dX6_begin_10 : decode cX6_begin 10 = .ok (.iconst 0, 1) := by decide +kernel
theorem dX6_begin_11 : decode cX6_begin 11 = .ok (.iastore, 1) := by decide +kernel
theorem dX6_begin_12 : decode cX6_begin 12 = .ok (.iinc 2 1, 3) := by decide +kernel
theorem dX6_begin_15 : decode cX6_begin 15 = .ok (.goto (-13), 3) := by decide +kernel
theorem dX6_begin_18 : decode cX6_begin 18 = .ok (.aload_n 0, 1) := by decide +kernel
theorem dX6_begin_19 : decode cX6_begin 19 = .ok (.iconst 1, 1) := by decide +kernel
theorem dX6_begin_20 : decode cX6_begin 20 = .ok (.iload_n 1, 1) := by decide +kernel
theorem dX6_begin_21 : decode cX6_begin 21 = .ok (.iastore, 1) := by decide +kernel
theorem dX6_begin_22 : decode cX6_begin 22 = .ok (.return_, 1) := by decide +kernel
theorem dX6_locks_0 : decode cX6_locks 0 = .ok (.aload_n 0, 1) := by decide +kernel
theorem dX6_locks_1 : decode cX6_locks 1 = .ok (.getfield 7, 3) := by decide +kernel
theorem dX6_locks_4 : decode cX6_locks 4 = .ok (.iconst 0, 1) := by decide +kernel
theorem dX6_locks_5 : decode cX6_locks 5 = .ok (.iaload, 1) := by decide +kernel
theorem dX6_locks_6 : decode cX6_locks 6 = .ok (.ireturn, 1) := by decide +kernel
set_option maxRecDepth 20000 in
theorem ggX6_isLock_X6_locks : GoodIn wsX6_isLock wsX6_locks := goodIn_r _ [5, 6, 10, 11, 12, 13, 14, 15, 16, 17, 18, 19, 20, 21, 22, 23, 24, 25, 26, 27, 28, 29, 30, 31] (by decide +kernel) (by decide +kernel)
set_option maxRecDepth 20000 in
theorem gX6_isLock_X6_locks : GoodIn wsX6_isLock (wsV RX6 58 RX6 yX6_locks wsX6_locks) := goodIn_app (goodIn_of _ (by decide +kernel)) ggX6_isLock_X6_locks
set_option maxRecDepth 20000 in
theorem ggX6_isLock_X6_in : GoodIn wsX6_isLock wsX6_in := goodIn_r _ [9] (by decide +kernel) (by decide +kernel)
set_option maxRecDepth 20000 in
theorem gX6_isLock_X6_in : GoodIn wsX6_isLock (va_wsS RX6 62 yX6_in wsX6_in) := goodIn_app (goodIn_of _ (by decide +kernel)) ggX6_isLock_X6_in
theorem dX6_isLock_0 : decode cX6_isLock 0 = .ok (.iload_n 1, 1) := by decide +kernel
theorem dX6_isLock_1 : decode cX6_isLock 1 = .ok (.i2l, 1) := by decide +kernel
theorem dX6_isLock_2 : decode cX6_isLock 2 = .ok (.lconst 0, 1) := by decide +kernel
theorem dX6_isLock_3 : decode cX6_isLock 3 = .ok (.aload_n 0, 1) := by decide +kernel
theorem dX6_isLock_4 : decode cX6_isLock 4 = .ok (.invokevirtual 58, 3) := by decide +kernel
theorem dX6_isLock_7 : decode cX6_isLock 7 = .ok (.iconst 1, 1) := by decide +kernel
theorem dX6_isLock_8 : decode cX6_isLock 8 = .ok (.isub, 1) := by decide +kernel
theorem dX6_isLock_9 : decode cX6_isLock 9 = .ok (.i2l, 1) := by decide +kernel
theorem dX6_isLock_10 : decode cX6_isLock 10 = .ok (.invokestatic 62, 3) := by decide +kernel
theorem dX6_isLock_13 : decode cX6_isLock 13 = .ok (.ireturn, 1) := by decide +kernel
theorem dX6_get_0 : decode cX6_get 0 = .ok (.aload_n 0, 1) := by decide +kernel
theorem dX6_get_1 : decode cX6_get 1 = .ok (.getfield 7, 3) := by decide +kernel
theorem dX6_get_4 : decode cX6_get 4 = .ok (.bipush 6, 2) := by decide +kernel
theorem dX6_get_6 : decode cX6_get 6 = .ok (.iconst 3, 1) := by decide +kernel
theorem dX6_get_7 : decode cX6_get 7 = .ok (.iload_n 1, 1) := by decide +kernel
theorem dX6_get_8 : decode cX6_get 8 = .ok (.imul, 1) := by decide +kernel
theorem dX6_get_9 : decode cX6_get 9 = .ok (.iadd, 1) := by decide +kernel
theorem dX6_get_10 : decode cX6_get 10 = .ok (.iload_n 2, 1) := by decide +kernel
theorem dX6_get_11 : decode cX6_get 11 = .ok (.iadd, 1) := by decide +kernel
theorem dX6_get_12 : decode cX6_get 12 = .ok (.iaload, 1) := by decide +kernel
theorem dX6_get_13 : decode cX6_get 13 = .ok (.ireturn, 1) := by decide +kernel
set_option maxRecDepth 20000 in
theorem ggX6_flight_X6_in : GoodIn wsX6_flight wsX6_in := goodIn_r _ [6] (by decide +kernel) (by decide +kernel)
set_option maxRecDepth 20000 in
theorem gX6_flight_X6_in : GoodIn wsX6_flight (va_wsS RX6 62 yX6_in wsX6_in) := goodIn_app (goodIn_of _ (by decide +kernel)) ggX6_flight_X6_in
set_option maxRecDepth 20000 in
theorem ggX6_flight_X6_bad : GoodIn wsX6_flight wsX6_bad := goodIn_r _ [10, 11, 19, 20, 21, 22, 23, 24, 25, 26, 27, 28, 29, 30, 31, 32, 33, 34, 35, 36, 37, 38, 39, 40] (by decide +kernel) (by decide +kernel)
set_option maxRecDepth 20000 in
theorem gX6_flight_X6_bad : GoodIn wsX6_flight (wsV RX6 68 RX6 yX6_bad wsX6_bad) := goodIn_app (goodIn_of _ (by decide +kernel)) ggX6_flight_X6_bad
set_option maxRecDepth 20000 in
theorem ggX6_flight_X6_locks : GoodIn wsX6_flight wsX6_locks := goodIn_r _ [15, 2, 19, 20, 21, 22, 23, 24, 25, 26, 27, 28, 29, 30, 31, 32, 33, 34, 35, 36, 37, 38, 39, 40] (by decide +kernel) (by decide +kernel)
set_option maxRecDepth 20000 in
theorem gX6_flight_X6_locks : GoodIn wsX6_flight (wsV RX6 58 RX6 yX6_locks wsX6_locks) := goodIn_app (goodIn_of _ (by decide +kernel)) ggX6_flight_X6_locks
set_option maxRecDepth 20000 in
theorem ggX6_flight_X6_begin : GoodIn wsX6_flight wsX6_begin := goodIn_r _ [18] (by decide +kernel) (by decide +kernel)
set_option maxRecDepth 20000 in
theorem gX6_flight_X6_begin : GoodIn wsX6_flight (va_wsS RX6 54 yX6_begin wsX6_begin) := goodIn_app (goodIn_of _ (by decide +kernel)) ggX6_flight_X6_begin
theorem dX6_flight_0 : decode cX6_flight 0 = .ok (.iload_n 1, 1) := by decide +kernel
theorem dX6_flight_1 : decode cX6_flight 1 = .ok (.i2l, 1) := by decide +kernel
theorem dX6_flight_2 : decode cX6_flight 2 = .ok (.lconst 0, 1) := by decide +kernel
theorem dX6_flight_3 : decode cX6_flight 3 = .ok (.ldc2_w 66, 3) := by decide +kernel
theorem dX6_flight_6 : decode cX6_flight 6 = .ok (.invokestatic 62, 3) := by decide +kernel
theorem dX6_flight_9 : decode cX6_flight 9 = .ok (.ifCond .ne 10, 3) := by decide +kernel
theorem dX6_flight_12 : decode cX6_flight 12 = .ok (.aload_n 0, 1) := by decide +kernel
theorem dX6_flight_13 : decode cX6_flight 13 = .ok (.bipush (-2), 2) := by decide +kernel
theorem dX6_flight_15 : decode cX6_flight 15 = .ok (.invokevirtual 68, 3) := by decide +kernel
theorem dX6_flight_18 : decode cX6_flight 18 = .ok (.ireturn, 1) := by decide +kernel
theorem dX6_flight_19 : decode cX6_flight 19 = .ok (.aload_n 0, 1) := by decide +kernel
theorem dX6_flight_20 : decode cX6_flight 20 = .ok (.invokevirtual 58, 3) := by decide +kernel
theorem dX6_flight_23 : decode cX6_flight 23 = .ok (.istore_n 2, 1) := by decide +kernel
theorem dX6_flight_24 : decode cX6_flight 24 = .ok (.aload_n 0, 1) := by decide +kernel
theorem dX6_flight_25 : decode cX6_flight 25 = .ok (.getfield 7, 3) := by decide +kernel
theorem dX6_flight_28 : decode cX6_flight 28 = .ok (.iload_n 1, 1) := by decide +kernel
theorem dX6_flight_29 : decode cX6_flight 29 = .ok (.invokestatic 54, 3) := by decide +kernel
theorem dX6_flight_32 : decode cX6_flight 32 = .ok (.iload_n 2, 1) := by decide +kernel
theorem dX6_flight_33 : decode cX6_flight 33 = .ok (.ireturn, 1) := by decide +kernel
theorem dX6_layLock_0 : decode cX6_layLock 0 = .ok (.bipush 6, 2) := by decide +kernel
theorem dX6_layLock_2 : decode cX6_layLock 2 = .ok (.iconst 3, 1) := by decide +kernel
theorem dX6_layLock_3 : decode cX6_layLock 3 = .ok (.aload_n 0, 1) := by decide +kernel
theorem dX6_layLock_4 : decode cX6_layLock 4 = .ok (.iconst 0, 1) := by decide +kernel
theorem dX6_layLock_5 : decode cX6_layLock 5 = .ok (.iaload, 1) := by decide +kernel
theorem dX6_layLock_6 : decode cX6_layLock 6 = .ok (.imul, 1) := by decide +kernel
theorem dX6_layLock_7 : decode cX6_layLock 7 = .ok (.iadd, 1) := by decide +kernel
theorem dX6_layLock_8 : decode cX6_layLock 8 = .ok (.istore 4, 2) := by decide +kernel
theorem dX6_layLock_10 : decode cX6_layLock 10 = .ok (.aload_n 0, 1) := by decide +kernel
theorem dX6_layLock_11 : decode cX6_layLock 11 = .ok (.iload 4, 2) := by decide +kernel
theorem dX6_layLock_13 : decode cX6_layLock 13 = .ok (.iconst 0, 1) := by decide +kernel
theorem dX6_layLock_14 : decode cX6_layLock 14 = .ok (.iadd, 1) := by decide +kernel
theorem dX6_layLock_15 : decode cX6_layLock 15 = .ok (.iload_n 1, 1) := by decide +kernel
theorem dX6_layLock_16 : decode cX6_layLock 16 = .ok (.iastore, 1) := by decide +kernel
theorem dX6_layLock_17 : decode cX6_layLock 17 = .ok (.aload_n 0, 1) := by decide +kernel
theorem dX6_layLock_18 : decode cX6_layLock 18 = .ok (.iload 4, 2) := by decide +kernel
theorem dX6_layLock_20 : decode cX6_layLock 20 = .ok (.iconst 1, 1) := by decide +kernel
theorem dX6_layLock_21 : decode cX6_layLock 21 = .ok (.iadd, 1) := by decide +kernel
theorem dX6_layLock_22 : decode cX6_layLock 22 = .ok (.iload_n 2, 1) := by decide +kernel
theorem dX6_layLock_23 : decode cX6_layLock 23 = .ok (.iastore, 1) := by decide +kernel
theorem dX6_layLock_24 : decode cX6_layLock 24 = .ok (.aload_n 0, 1) := by decide +kernel
theorem dX6_layLock_25 : decode cX6_layLock 25 = .ok (.iload 4, 2) := by decide +kernel
theorem dX6_layLock_27 : decode cX6_layLock 27 = .ok (.iconst 2, 1) := by decide +kernel
theorem dX6_layLock_28 : decode cX6_layLock 28 = .ok (.iadd, 1) := by decide +kernel
theorem dX6_layLock_29 : decode cX6_layLock 29 = .ok (.iload_n 3, 1) := by decide +kernel
theorem dX6_layLock_30 : decode cX6_layLock 30 = .ok (.iastore, 1) := by decide +kernel
theorem dX6_layLock_31 : decode cX6_layLock 31 = .ok (.aload_n 0, 1) := by decide +kernel
theorem dX6_layLock_32 : decode cX6_layLock 32 = .ok (.iconst 0, 1) := by decide +kernel
theorem dX6_layLock_33 : decode cX6_layLock 33 = .ok (.dup2, 1) := by decide +kernel
theorem dX6_layLock_34 : decode cX6_layLock 34 = .ok (.iaload, 1) := by decide +kernel
theorem dX6_layLock_35 : decode cX6_layLock 35 = .ok (.iconst 1, 1) := by decide +kernel
theorem dX6_layLock_36 : decode cX6_layLock 36 = .ok (.iadd, 1) := by decide +kernel
theorem dX6_layLock_37 : decode cX6_layLock 37 = .ok (.iastore, 1) := by decide +kernel
theorem dX6_layLock_38 : decode cX6_layLock 38 = .ok (.return_, 1) := by decide +kernel
set_option maxRecDepth 20000 in
theorem ggX6_lock_X6_in : GoodIn wsX6_lock wsX6_in := goodIn_r _ [7] (by decide +kernel) (by decide +kernel)
set_option maxRecDepth 20000 in
theorem gX6_lock_X6_in : GoodIn wsX6_lock (va_wsS RX6 62 yX6_in wsX6_in) := goodIn_app (goodIn_of _ (by decide +kernel)) ggX6_lock_X6_in
set_option maxRecDepth 20000 in
theorem ggX6_lock_X6_bad : GoodIn wsX6_lock wsX6_bad := goodIn_r _ [11, 12, 24, 25, 26, 27, 28, 29, 30, 31, 32, 33, 34, 35, 36, 37, 38, 39, 40, 41, 42, 43, 44, 45] (by decide +kernel) (by decide +kernel)
set_option maxRecDepth 20000 in
theorem gX6_lock_X6_bad : GoodIn wsX6_lock (wsV RX6 68 RX6 yX6_bad wsX6_bad) := goodIn_app (goodIn_of _ (by decide +kernel)) ggX6_lock_X6_bad
set_option maxRecDepth 20000 in
theorem ggX6_lock_X6_locks : GoodIn wsX6_lock wsX6_locks := goodIn_r _ [16, 3, 24, 25, 26, 27, 28, 29, 30, 31, 32, 33, 34, 35, 36, 37, 38, 39, 40, 41, 42, 43, 44, 45] (by decide +kernel) (by decide +kernel)
set_option maxRecDepth 20000 in
theorem gX6_lock_X6_locks : GoodIn wsX6_lock (wsV RX6 58 RX6 yX6_locks wsX6_locks) := goodIn_app (goodIn_of _ (by decide +kernel)) ggX6_lock_X6_locks
set_option maxRecDepth 20000 in
theorem ggX6_lock_X6_full : GoodIn wsX6_lock wsX6_full := goodIn_r _ [20, 12, 24, 25, 26, 27, 28, 29, 30, 31, 32, 33, 34, 35, 36, 37, 38, 39, 40, 41, 42, 43, 44, 45] (by decide +kernel) (by decide +kernel)
set_option maxRecDepth 20000 in
theorem gX6_lock_X6_full : GoodIn wsX6_lock (wsV RX6 76 RX6 yX6_full wsX6_full) := goodIn_app (goodIn_of _ (by decide +kernel)) ggX6_lock_X6_full
set_option maxRecDepth 20000 in
theorem ggX6_lock_X6_layLock : GoodIn wsX6_lock wsX6_layLock := goodIn_r _ [23] (by decide +kernel) (by decide +kernel)
set_option maxRecDepth 20000 in
theorem gX6_lock_X6_layLock : GoodIn wsX6_lock (va_wsS RX6 79 yX6_layLock wsX6_layLock) := goodIn_app (goodIn_of _ (by decide +kernel)) ggX6_lock_X6_layLock
theorem dX6_lock_0 : decode cX6_lock 0 = .ok (.iload_n 1, 1) := by decide +kernel
theorem dX6_lock_1 : decode cX6_lock 1 = .ok (.i2l, 1) := by decide +kernel
theorem dX6_lock_2 : decode cX6_lock 2 = .ok (.lconst 0, 1) := by decide +kernel
theorem dX6_lock_3 : decode cX6_lock 3 = .ok (.ldc2_w 72, 3) := by decide +kernel
theorem dX6_lock_6 : decode cX6_lock 6 = .ok (.invokestatic 62, 3) := by decide +kernel
theorem dX6_lock_9 : decode cX6_lock 9 = .ok (.ifCond .eq 25, 3) := by decide +kernel
theorem dX6_lock_12 : decode cX6_lock 12 = .ok (.iload_n 2, 1) := by decide +kernel
theorem dX6_lock_13 : decode cX6_lock 13 = .ok (.i2l, 1) := by decide +kernel
theorem dX6_lock_14 : decode cX6_lock 14 = .ok (.lconst 0, 1) := by decide +kernel
theorem dX6_lock_15 : decode cX6_lock 15 = .ok (.lconst 1, 1) := by decide +kernel
theorem dX6_lock_16 : decode cX6_lock 16 = .ok (.invokestatic 62, 3) := by decide +kernel
theorem dX6_lock_19 : decode cX6_lock 19 = .ok (.ifCond .eq 15, 3) := by decide +kernel
theorem dX6_lock_22 : decode cX6_lock 22 = .ok (.iload_n 3, 1) := by decide +kernel
theorem dX6_lock_23 : decode cX6_lock 23 = .ok (.i2l, 1) := by decide +kernel
theorem dX6_lock_24 : decode cX6_lock 24 = .ok (.lconst 1, 1) := by decide +kernel
theorem dX6_lock_25 : decode cX6_lock 25 = .ok (.ldc2_w 74, 3) := by decide +kernel
theorem dX6_lock_28 : decode cX6_lock 28 = .ok (.invokestatic 62, 3) := by decide +kernel
theorem dX6_lock_31 : decode cX6_lock 31 = .ok (.ifCond .ne 10, 3) := by decide +kernel
theorem dX6_lock_34 : decode cX6_lock 34 = .ok (.aload_n 0, 1) := by decide +kernel
theorem dX6_lock_35 : decode cX6_lock 35 = .ok (.bipush (-2), 2) := by decide +kernel
theorem dX6_lock_37 : decode cX6_lock 37 = .ok (.invokevirtual 68, 3) := by decide +kernel
theorem dX6_lock_40 : decode cX6_lock 40 = .ok (.ireturn, 1) := by decide +kernel
theorem dX6_lock_41 : decode cX6_lock 41 = .ok (.aload_n 0, 1) := by decide +kernel
theorem dX6_lock_42 : decode cX6_lock 42 = .ok (.invokevirtual 58, 3) := by decide +kernel
theorem dX6_lock_45 : decode cX6_lock 45 = .ok (.bipush 8, 2) := by decide +kernel
theorem dX6_lock_47 : decode cX6_lock 47 = .ok (.if_icmp .ne 8, 3) := by decide +kernel
theorem dX6_lock_50 : decode cX6_lock 50 = .ok (.aload_n 0, 1) := by decide +kernel
theorem dX6_lock_51 : decode cX6_lock 51 = .ok (.invokevirtual 76, 3) := by decide +kernel
theorem dX6_lock_54 : decode cX6_lock 54 = .ok (.ireturn, 1) := by decide +kernel
theorem dX6_lock_55 : decode cX6_lock 55 = .ok (.aload_n 0, 1) := by decide +kernel
theorem dX6_lock_56 : decode cX6_lock 56 = .ok (.getfield 7, 3) := by decide +kernel
theorem dX6_lock_59 : decode cX6_lock 59 = .ok (.iload_n 1, 1) := by decide +kernel
theorem dX6_lock_60 : decode cX6_lock 60 = .ok (.iload_n 2, 1) := by decide +kernel
theorem dX6_lock_61 : decode cX6_lock 61 = .ok (.iload_n 3, 1) := by decide +kernel
theorem dX6_lock_62 : decode cX6_lock 62 = .ok (.invokestatic 79, 3) := by decide +kernel
theorem dX6_lock_65 : decode cX6_lock 65 = .ok (.aload_n 0, 1) := by decide +kernel
theorem dX6_lock_66 : decode cX6_lock 66 = .ok (.getfield 7, 3) := by decide +kernel
theorem dX6_lock_69 : decode cX6_lock 69 = .ok (.iconst 5, 1) := by decide +kernel
theorem dX6_lock_70 : decode cX6_lock 70 = .ok (.iconst 0, 1) := by decide +kernel
theorem dX6_lock_71 : decode cX6_lock 71 = .ok (.iastore, 1) := by decide +kernel
theorem dX6_lock_72 : decode cX6_lock 72 = .ok (.aload_n 0, 1) := by decide +kernel
theorem dX6_lock_73 : decode cX6_lock 73 = .ok (.invokevirtual 58, 3) := by decide +kernel
theorem dX6_lock_76 : decode cX6_lock 76 = .ok (.iconst 1, 1) := by decide +kernel
theorem dX6_lock_77 : decode cX6_lock 77 = .ok (.isub, 1) := by decide +kernel
theorem dX6_lock_78 : decode cX6_lock 78 = .ok (.ireturn, 1) := by decide +kernel
set_option maxRecDepth 20000 in
theorem ggX6_strength_X6_in : GoodIn wsX6_strength wsX6_in := goodIn_r _ [6] (by decide +kernel) (by decide +kernel)
set_option maxRecDepth 20000 in
theorem gX6_strength_X6_in : GoodIn wsX6_strength (va_wsS RX6 62 yX6_in wsX6_in) := goodIn_app (goodIn_of _ (by decide +kernel)) ggX6_strength_X6_in
set_option maxRecDepth 20000 in
theorem ggX6_strength_X6_bad : GoodIn wsX6_strength wsX6_bad := goodIn_r _ [10, 11, 12, 13, 14, 15, 16, 17, 18, 19, 20, 21, 22, 23, 24, 25, 26, 27, 28, 29, 30, 31, 32, 33] (by decide +kernel) (by decide +kernel)
set_option maxRecDepth 20000 in
theorem gX6_strength_X6_bad : GoodIn wsX6_strength (wsV RX6 68 RX6 yX6_bad wsX6_bad) := goodIn_app (goodIn_of _ (by decide +kernel)) ggX6_strength_X6_bad
theorem dX6_strength_0 : decode cX6_strength 0 = .ok (.iload_n 1, 1) := by decide +kernel
theorem dX6_strength_1 : decode cX6_strength 1 = .ok (.i2l, 1) := by decide +kernel
theorem dX6_strength_2 : decode cX6_strength 2 = .ok (.lconst 0, 1) := by decide +kernel
theorem dX6_strength_3 : decode cX6_strength 3 = .ok (.ldc2_w 66, 3) := by decide +kernel
theorem dX6_strength_6 : decode cX6_strength 6 = .ok (.invokestatic 62, 3) := by decide +kernel
theorem dX6_strength_9 : decode cX6_strength 9 = .ok (.ifCond .ne 10, 3) := by decide +kernel
theorem dX6_strength_12 : decode cX6_strength 12 = .ok (.aload_n 0, 1) := by decide +kernel
theorem dX6_strength_13 : decode cX6_strength 13 = .ok (.bipush (-2), 2) := by decide +kernel
theorem dX6_strength_15 : decode cX6_strength 15 = .ok (.invokevirtual 68, 3) := by decide +kernel
theorem dX6_strength_18 : decode cX6_strength 18 = .ok (.ireturn, 1) := by decide +kernel
theorem dX6_strength_19 : decode cX6_strength 19 = .ok (.aload_n 0, 1) := by decide +kernel
theorem dX6_strength_20 : decode cX6_strength 20 = .ok (.getfield 7, 3) := by decide +kernel
theorem dX6_strength_23 : decode cX6_strength 23 = .ok (.iconst 1, 1) := by decide +kernel
theorem dX6_strength_24 : decode cX6_strength 24 = .ok (.iaload, 1) := by decide +kernel
theorem dX6_strength_25 : decode cX6_strength 25 = .ok (.istore_n 2, 1) := by decide +kernel
theorem dX6_strength_26 : decode cX6_strength 26 = .ok (.aload_n 0, 1) := by decide +kernel
theorem dX6_strength_27 : decode cX6_strength 27 = .ok (.getfield 7, 3) := by decide +kernel
theorem dX6_strength_30 : decode cX6_strength 30 = .ok (.iconst 1, 1) := by decide +kernel
theorem dX6_strength_31 : decode cX6_strength 31 = .ok (.iload_n 1, 1) := by decide +kernel
theorem dX6_strength_32 : decode cX6_strength 32 = .ok (.iastore, 1) := by decide +kernel
theorem dX6_strength_33 : decode cX6_strength 33 = .ok (.iload_n 2, 1) := by decide +kernel
theorem dX6_strength_34 : decode cX6_strength 34 = .ok (.ireturn, 1) := by decide +kernel
set_option maxRecDepth 20000 in
theorem ggX6_keep_X6_get : GoodIn wsX6_keep wsX6_get := goodIn_r _ [6, 1, 7, 8, 9, 10, 11, 12, 13, 14, 15, 16, 17, 18, 19, 20, 21, 22, 23, 24, 25, 26, 27, 28] (by decide +kernel) (by decide +kernel)
set_option maxRecDepth 20000 in
theorem gX6_keep_X6_get : GoodIn wsX6_keep (wsV RX6 83 RX6 yX6_get wsX6_get) := goodIn_app (goodIn_of _ (by decide +kernel)) ggX6_keep_X6_get
theorem dX6_keep_0 : decode cX6_keep 0 = .ok (.aload_n 0, 1) := by decide +kernel
theorem dX6_keep_1 : decode cX6_keep 1 = .ok (.getfield 7, 3) := by decide +kernel
theorem dX6_keep_4 : decode cX6_keep 4 = .ok (.iconst 5, 1) := by decide +kernel
theorem dX6_keep_5 : decode cX6_keep 5 = .ok (.iaload, 1) := by decide +kernel
theorem dX6_keep_6 : decode cX6_keep 6 = .ok (.bipush 8, 2) := by decide +kernel
theorem dX6_keep_8 : decode cX6_keep 8 = .ok (.if_icmp .ne 43, 3) := by decide +kernel
theorem dX6_keep_11 : decode cX6_keep 11 = .ok (.iconst 0, 1) := by decide +kernel
theorem dX6_keep_12 : decode cX6_keep 12 = .ok (.istore_n 1, 1) := by decide +kernel
theorem dX6_keep_13 : decode cX6_keep 13 = .ok (.iload_n 1, 1) := by decide +kernel
theorem dX6_keep_14 : decode cX6_keep 14 = .ok (.bipush 70, 2) := by decide +kernel
theorem dX6_keep_16 : decode cX6_keep 16 = .ok (.if_icmp .ge 27, 3) := by decide +kernel
theorem dX6_keep_19 : decode cX6_keep 19 = .ok (.aload_n 0, 1) := by decide +kernel
theorem dX6_keep_20 : decode cX6_keep 20 = .ok (.getfield 7, 3) := by decide +kernel
theorem dX6_keep_23 : decode cX6_keep 23 = .ok (.bipush 42, 2) := by decide +kernel
theorem dX6_keep_25 : decode cX6_keep 25 = .ok (.iload_n 1, 1) := by decide +kernel
theorem dX6_keep_26 : decode cX6_keep 26 = .ok (.iadd, 1) := by decide +kernel
theorem dX6_keep_27 : decode cX6_keep 27 = .ok (.aload_n 0, 1) := by decide +kernel
theorem dX6_keep_28 : decode cX6_keep 28 = .ok (.getfield 7, 3) := by decide +kernel
theorem dX6_keep_31 : decode cX6_keep 31 = .ok (.bipush 52, 2) := by decide +kernel
theorem dX6_keep_33 : decode cX6_keep 33 = .ok (.iload_n 1, 1) := by decide +kernel
theorem dX6_keep_34 : decode cX6_keep 34 = .ok (.iadd, 1) := by decide +kernel
theorem dX6_keep_35 : decode cX6_keep 35 = .ok (.iaload, 1) := by decide +kernel
theorem dX6_keep_36 : decode cX6_keep 36 = .ok (.iastore, 1) := by decide +kernel
theorem dX6_keep_37 : decode cX6_keep 37 = .ok (.iinc 1 1, 3) := by decide +kernel
theorem dX6_keep_40 : decode cX6_keep 40 = .ok (.goto (-27), 3) := by decide +kernel
theorem dX6_keep_43 : decode cX6_keep 43 = .ok (.aload_n 0, 1) := by decide +kernel
theorem dX6_keep_44 : decode cX6_keep 44 = .ok (.getfield 7, 3) := by decide +kernel
theorem dX6_keep_47 : decode cX6_keep 47 = .ok (.iconst 5, 1) := by decide +kernel
theorem dX6_keep_48 : decode cX6_keep 48 = .ok (.bipush 7, 2) := by decide +kernel
theorem dX6_keep_50 : decode cX6_keep 50 = .ok (.iastore, 1) := by decide +kernel
theorem dX6_keep_51 : decode cX6_keep 51 = .ok (.bipush 42, 2) := by decide +kernel
theorem dX6_keep_53 : decode cX6_keep 53 = .ok (.bipush 10, 2) := by decide +kernel
theorem dX6_keep_55 : decode cX6_keep 55 = .ok (.aload_n 0, 1) := by decide +kernel
theorem dX6_keep_56 : decode cX6_keep 56 = .ok (.getfield 7, 3) := by decide +kernel
theorem dX6_keep_59 : decode cX6_keep 59 = .ok (.iconst 5, 1) := by decide +kernel
theorem dX6_keep_60 : decode cX6_keep 60 = .ok (.iaload, 1) := by decide +kernel
theorem dX6_keep_61 : decode cX6_keep 61 = .ok (.imul, 1) := by decide +kernel
theorem dX6_keep_62 : decode cX6_keep 62 = .ok (.iadd, 1) := by decide +kernel
theorem dX6_keep_63 : decode cX6_keep 63 = .ok (.istore_n 1, 1) := by decide +kernel
theorem dX6_keep_64 : decode cX6_keep 64 = .ok (.iconst 0, 1) := by decide +kernel
theorem dX6_keep_65 : decode cX6_keep 65 = .ok (.istore_n 2, 1) := by decide +kernel
theorem dX6_keep_66 : decode cX6_keep 66 = .ok (.iload_n 2, 1) := by decide +kernel
theorem dX6_keep_67 : decode cX6_keep 67 = .ok (.bipush 8, 2) := by decide +kernel
theorem dX6_keep_69 : decode cX6_keep 69 = .ok (.if_icmp .ge 23, 3) := by decide +kernel
theorem dX6_keep_72 : decode cX6_keep 72 = .ok (.aload_n 0, 1) := by decide +kernel
theorem dX6_keep_73 : decode cX6_keep 73 = .ok (.getfield 7, 3) := by decide +kernel
theorem dX6_keep_76 : decode cX6_keep 76 = .ok (.iload_n 1, 1) := by decide +kernel
theorem dX6_keep_77 : decode cX6_keep 77 = .ok (.iload_n 2, 1) := by decide +kernel
theorem dX6_keep_78 : decode cX6_keep 78 = .ok (.iadd, 1) := by decide +kernel
theorem dX6_keep_79 : decode cX6_keep 79 = .ok (.aload_n 0, 1) := by decide +kernel
theorem dX6_keep_80 : decode cX6_keep 80 = .ok (.iload_n 2, 1) := by decide +kernel
theorem dX6_keep_81 : decode cX6_keep 81 = .ok (.iconst 1, 1) := by decide +kernel
theorem dX6_keep_82 : decode cX6_keep 82 = .ok (.invokevirtual 83, 3) := by decide +kernel
theorem dX6_keep_85 : decode cX6_keep 85 = .ok (.iastore, 1) := by decide +kernel
theorem dX6_keep_86 : decode cX6_keep 86 = .ok (.iinc 2 1, 3) := by decide +kernel
theorem dX6_keep_89 : decode cX6_keep 89 = .ok (.goto (-23), 3) := by decide +kernel
theorem dX6_keep_92 : decode cX6_keep 92 = .ok (.aload_n 0, 1) := by decide +kernel
theorem dX6_keep_93 : decode cX6_keep 93 = .ok (.getfield 7, 3) := by decide +kernel
theorem dX6_keep_96 : decode cX6_keep 96 = .ok (.iload_n 1, 1) := by decide +kernel
theorem dX6_keep_97 : decode cX6_keep 97 = .ok (.bipush 8, 2) := by decide +kernel
theorem dX6_keep_99 : decode cX6_keep 99 = .ok (.iadd, 1) := by decide +kernel
theorem dX6_keep_100 : decode cX6_keep 100 = .ok (.aload_n 0, 1) := by decide +kernel
theorem dX6_keep_101 : decode cX6_keep 101 = .ok (.getfield 7, 3) := by decide +kernel
theorem dX6_keep_104 : decode cX6_keep 104 = .ok (.iconst 2, 1) := by decide +kernel
theorem dX6_keep_105 : decode cX6_keep 105 = .ok (.iaload, 1) := by decide +kernel
theorem dX6_keep_106 : decode cX6_keep 106 = .ok (.iastore, 1) := by decide +kernel
theorem dX6_keep_107 : decode cX6_keep 107 = .ok (.aload_n 0, 1) := by decide +kernel
theorem dX6_keep_108 : decode cX6_keep 108 = .ok (.getfield 7, 3) := by decide +kernel
theorem dX6_keep_111 : decode cX6_keep 111 = .ok (.iload_n 1, 1) := by decide +kernel
theorem dX6_keep_112 : decode cX6_keep 112 = .ok (.bipush 9, 2) := by decide +kernel
theorem dX6_keep_114 : decode cX6_keep 114 = .ok (.iadd, 1) := by decide +kernel
theorem dX6_keep_115 : decode cX6_keep 115 = .ok (.aload_n 0, 1) := by decide +kernel
theorem dX6_keep_116 : decode cX6_keep 116 = .ok (.getfield 7, 3) := by decide +kernel
theorem dX6_keep_119 : decode cX6_keep 119 = .ok (.iconst 3, 1) := by decide +kernel
theorem dX6_keep_120 : decode cX6_keep 120 = .ok (.iaload, 1) := by decide +kernel
theorem dX6_keep_121 : decode cX6_keep 121 = .ok (.iastore, 1) := by decide +kernel
theorem dX6_keep_122 : decode cX6_keep 122 = .ok (.aload_n 0, 1) := by decide +kernel
theorem dX6_keep_123 : decode cX6_keep 123 = .ok (.getfield 7, 3) := by decide +kernel
theorem dX6_keep_126 : decode cX6_keep 126 = .ok (.iconst 5, 1) := by decide +kernel
theorem dX6_keep_127 : decode cX6_keep 127 = .ok (.dup2, 1) := by decide +kernel
theorem dX6_keep_128 : decode cX6_keep 128 = .ok (.iaload, 1) := by decide +kernel
theorem dX6_keep_129 : decode cX6_keep 129 = .ok (.iconst 1, 1) := by decide +kernel
theorem dX6_keep_130 : decode cX6_keep 130 = .ok (.iadd, 1) := by decide +kernel
theorem dX6_keep_131 : decode cX6_keep 131 = .ok (.iastore, 1) := by decide +kernel
theorem dX6_keep_132 : decode cX6_keep 132 = .ok (.return_, 1) := by decide +kernel
set_option maxRecDepth 20000 in
theorem ggX6_turn_X6_isLock : GoodIn wsX6_turn wsX6_isLock := goodIn_r _ [6, 7, 8, 9, 5, 10, 1, 11, 12, 13, 27, 28, 29, 30, 31, 32, 33, 34, 35, 36, 37, 38, 39, 40, 41, 42, 43, 44, 45, 46, 47, 48] (by decide +kernel) (by decide +kernel)
set_option maxRecDepth 20000 in
theorem gX6_turn_X6_isLock : GoodIn wsX6_turn (wsV RX6 87 RX6 yX6_isLock wsX6_isLock) := goodIn_app (goodIn_of _ (by decide +kernel)) ggX6_turn_X6_isLock
set_option maxRecDepth 20000 in
theorem ggX6_turn_X6_bad : GoodIn wsX6_turn wsX6_bad := goodIn_r _ [17, 18, 27, 28, 29, 30, 31, 32, 33, 34, 35, 36, 37, 38, 39, 40, 41, 42, 43, 44, 45, 46, 47, 48] (by decide +kernel) (by decide +kernel)
set_option maxRecDepth 20000 in
theorem gX6_turn_X6_bad : GoodIn wsX6_turn (wsV RX6 68 RX6 yX6_bad wsX6_bad) := goodIn_app (goodIn_of _ (by decide +kernel)) ggX6_turn_X6_bad
set_option maxRecDepth 20000 in
theorem ggX6_turn_X6_keep : GoodIn wsX6_turn wsX6_keep := goodIn_r _ [22, 1, 23, 24, 25, 5, 26, 27, 28, 29, 30, 31, 32, 33, 34, 35, 36, 37, 38, 39, 40, 41, 42, 43, 44, 45, 46, 47, 48] (by decide +kernel) (by decide +kernel)
set_option maxRecDepth 20000 in
theorem gX6_turn_X6_keep : GoodIn wsX6_turn (wsV RX6 91 RX6 yX6_keep wsX6_keep) := goodIn_app (goodIn_of _ (by decide +kernel)) ggX6_turn_X6_keep
set_option maxRecDepth 20000 in
theorem ggX6_turn_X6_get : GoodIn wsX6_turn wsX6_get := goodIn_r _ [26, 1, 27, 28, 29, 30, 31, 32, 33, 34, 35, 36, 37, 38, 39, 40, 41, 42, 43, 44, 45, 46, 47, 48] (by decide +kernel) (by decide +kernel)
set_option maxRecDepth 20000 in
theorem gX6_turn_X6_get : GoodIn wsX6_turn (wsV RX6 83 RX6 yX6_get wsX6_get) := goodIn_app (goodIn_of _ (by decide +kernel)) ggX6_turn_X6_get
theorem dX6_turn_0 : decode cX6_turn 0 = .ok (.aload_n 0, 1) := by decide +kernel
theorem dX6_turn_1 : decode cX6_turn 1 = .ok (.iload_n 1, 1) := by decide +kernel
theorem dX6_turn_2 : decode cX6_turn 2 = .ok (.invokevirtual 87, 3) := by decide +kernel
theorem dX6_turn_5 : decode cX6_turn 5 = .ok (.ifCond .ne 10, 3) := by decide +kernel
theorem dX6_turn_8 : decode cX6_turn 8 = .ok (.aload_n 0, 1) := by decide +kernel
theorem dX6_turn_9 : decode cX6_turn 9 = .ok (.bipush (-2), 2) := by decide +kernel
theorem dX6_turn_11 : decode cX6_turn 11 = .ok (.invokevirtual 68, 3) := by decide +kernel
theorem dX6_turn_14 : decode cX6_turn 14 = .ok (.ireturn, 1) := by decide +kernel
theorem dX6_turn_15 : decode cX6_turn 15 = .ok (.aload_n 0, 1) := by decide +kernel
theorem dX6_turn_16 : decode cX6_turn 16 = .ok (.invokevirtual 91, 3) := by decide +kernel
theorem dX6_turn_19 : decode cX6_turn 19 = .ok (.aload_n 0, 1) := by decide +kernel
theorem dX6_turn_20 : decode cX6_turn 20 = .ok (.getfield 7, 3) := by decide +kernel
theorem dX6_turn_23 : decode cX6_turn 23 = .ok (.bipush 6, 2) := by decide +kernel
theorem dX6_turn_25 : decode cX6_turn 25 = .ok (.iconst 3, 1) := by decide +kernel
theorem dX6_turn_26 : decode cX6_turn 26 = .ok (.iload_n 1, 1) := by decide +kernel
theorem dX6_turn_27 : decode cX6_turn 27 = .ok (.imul, 1) := by decide +kernel
theorem dX6_turn_28 : decode cX6_turn 28 = .ok (.iadd, 1) := by decide +kernel
theorem dX6_turn_29 : decode cX6_turn 29 = .ok (.iconst 1, 1) := by decide +kernel
theorem dX6_turn_30 : decode cX6_turn 30 = .ok (.iadd, 1) := by decide +kernel
theorem dX6_turn_31 : decode cX6_turn 31 = .ok (.dup2, 1) := by decide +kernel
theorem dX6_turn_32 : decode cX6_turn 32 = .ok (.iaload, 1) := by decide +kernel
theorem dX6_turn_33 : decode cX6_turn 33 = .ok (.iconst 1, 1) := by decide +kernel
theorem dX6_turn_34 : decode cX6_turn 34 = .ok (.ixor, 1) := by decide +kernel
theorem dX6_turn_35 : decode cX6_turn 35 = .ok (.iastore, 1) := by decide +kernel
theorem dX6_turn_36 : decode cX6_turn 36 = .ok (.aload_n 0, 1) := by decide +kernel
theorem dX6_turn_37 : decode cX6_turn 37 = .ok (.iload_n 1, 1) := by decide +kernel
theorem dX6_turn_38 : decode cX6_turn 38 = .ok (.iconst 1, 1) := by decide +kernel
theorem dX6_turn_39 : decode cX6_turn 39 = .ok (.invokevirtual 83, 3) := by decide +kernel
theorem dX6_turn_42 : decode cX6_turn 42 = .ok (.ireturn, 1) := by decide +kernel
set_option maxRecDepth 20000 in
theorem ggX6_undo_X6_no : GoodIn wsX6_undo wsX6_no := goodIn_r _ [6, 7, 8, 9, 10, 11, 12, 13, 14, 15, 16, 17, 18, 19, 20, 21, 22, 23, 24, 25, 26, 27, 28, 29] (by decide +kernel) (by decide +kernel)
set_option maxRecDepth 20000 in
theorem gX6_undo_X6_no : GoodIn wsX6_undo (wsV RX6 94 RX6 yX6_no wsX6_no) := goodIn_app (goodIn_of _ (by decide +kernel)) ggX6_undo_X6_no
theorem dX6_undo_0 : decode cX6_undo 0 = .ok (.aload_n 0, 1) := by decide +kernel
theorem dX6_undo_1 : decode cX6_undo 1 = .ok (.getfield 7, 3) := by decide +kernel
theorem dX6_undo_4 : decode cX6_undo 4 = .ok (.iconst 5, 1) := by decide +kernel
theorem dX6_undo_5 : decode cX6_undo 5 = .ok (.iaload, 1) := by decide +kernel
theorem dX6_undo_6 : decode cX6_undo 6 = .ok (.ifCond .ne 8, 3) := by decide +kernel
theorem dX6_undo_9 : decode cX6_undo 9 = .ok (.aload_n 0, 1) := by decide +kernel
theorem dX6_undo_10 : decode cX6_undo 10 = .ok (.invokevirtual 94, 3) := by decide +kernel
theorem dX6_undo_13 : decode cX6_undo 13 = .ok (.ireturn, 1) := by decide +kernel
theorem dX6_undo_14 : decode cX6_undo 14 = .ok (.aload_n 0, 1) := by decide +kernel
theorem dX6_undo_15 : decode cX6_undo 15 = .ok (.getfield 7, 3) := by decide +kernel
theorem dX6_undo_18 : decode cX6_undo 18 = .ok (.iconst 5, 1) := by decide +kernel
theorem dX6_undo_19 : decode cX6_undo 19 = .ok (.dup2, 1) := by decide +kernel
theorem dX6_undo_20 : decode cX6_undo 20 = .ok (.iaload, 1) := by decide +kernel
theorem dX6_undo_21 : decode cX6_undo 21 = .ok (.iconst 1, 1) := by decide +kernel
theorem dX6_undo_22 : decode cX6_undo 22 = .ok (.isub, 1) := by decide +kernel
theorem dX6_undo_23 : decode cX6_undo 23 = .ok (.iastore, 1) := by decide +kernel
theorem dX6_undo_24 : decode cX6_undo 24 = .ok (.bipush 42, 2) := by decide +kernel
theorem dX6_undo_26 : decode cX6_undo 26 = .ok (.bipush 10, 2) := by decide +kernel
theorem dX6_undo_28 : decode cX6_undo 28 = .ok (.aload_n 0, 1) := by decide +kernel
theorem dX6_undo_29 : decode cX6_undo 29 = .ok (.getfield 7, 3) := by decide +kernel
theorem dX6_undo_32 : decode cX6_undo 32 = .ok (.iconst 5, 1) := by decide +kernel
theorem dX6_undo_33 : decode cX6_undo 33 = .ok (.iaload, 1) := by decide +kernel
theorem dX6_undo_34 : decode cX6_undo 34 = .ok (.imul, 1) := by decide +kernel
theorem dX6_undo_35 : decode cX6_undo 35 = .ok (.iadd, 1) := by decide +kernel
theorem dX6_undo_36 : decode cX6_undo 36 = .ok (.istore_n 1, 1) := by decide +kernel
theorem dX6_undo_37 : decode cX6_undo 37 = .ok (.iconst 0, 1) := by decide +kernel
theorem dX6_undo_38 : decode cX6_undo 38 = .ok (.istore_n 2, 1) := by decide +kernel
theorem dX6_undo_39 : decode cX6_undo 39 = .ok (.iload_n 2, 1) := by decide +kernel
theorem dX6_undo_40 : decode cX6_undo 40 = .ok (.bipush 8, 2) := by decide +kernel
theorem dX6_undo_42 : decode cX6_undo 42 = .ok (.if_icmp .ge 30, 3) := by decide +kernel
theorem dX6_undo_45 : decode cX6_undo 45 = .ok (.aload_n 0, 1) := by decide +kernel
theorem dX6_undo_46 : decode cX6_undo 46 = .ok (.getfield 7, 3) := by decide +kernel
theorem dX6_undo_49 : decode cX6_undo 49 = .ok (.bipush 6, 2) := by decide +kernel
theorem dX6_undo_51 : decode cX6_undo 51 = .ok (.iconst 3, 1) := by decide +kernel
theorem dX6_undo_52 : decode cX6_undo 52 = .ok (.iload_n 2, 1) := by decide +kernel
theorem dX6_undo_53 : decode cX6_undo 53 = .ok (.imul, 1) := by decide +kernel
theorem dX6_undo_54 : decode cX6_undo 54 = .ok (.iadd, 1) := by decide +kernel
theorem dX6_undo_55 : decode cX6_undo 55 = .ok (.iconst 1, 1) := by decide +kernel
theorem dX6_undo_56 : decode cX6_undo 56 = .ok (.iadd, 1) := by decide +kernel
theorem dX6_undo_57 : decode cX6_undo 57 = .ok (.aload_n 0, 1) := by decide +kernel
theorem dX6_undo_58 : decode cX6_undo 58 = .ok (.getfield 7, 3) := by decide +kernel
theorem dX6_undo_61 : decode cX6_undo 61 = .ok (.iload_n 1, 1) := by decide +kernel
theorem dX6_undo_62 : decode cX6_undo 62 = .ok (.iload_n 2, 1) := by decide +kernel
theorem dX6_undo_63 : decode cX6_undo 63 = .ok (.iadd, 1) := by decide +kernel
theorem dX6_undo_64 : decode cX6_undo 64 = .ok (.iaload, 1) := by decide +kernel
theorem dX6_undo_65 : decode cX6_undo 65 = .ok (.iastore, 1) := by decide +kernel
theorem dX6_undo_66 : decode cX6_undo 66 = .ok (.iinc 2 1, 3) := by decide +kernel
theorem dX6_undo_69 : decode cX6_undo 69 = .ok (.goto (-30), 3) := by decide +kernel
theorem dX6_undo_72 : decode cX6_undo 72 = .ok (.aload_n 0, 1) := by decide +kernel
theorem dX6_undo_73 : decode cX6_undo 73 = .ok (.getfield 7, 3) := by decide +kernel
theorem dX6_undo_76 : decode cX6_undo 76 = .ok (.iconst 2, 1) := by decide +kernel
theorem dX6_undo_77 : decode cX6_undo 77 = .ok (.aload_n 0, 1) := by decide +kernel
theorem dX6_undo_78 : decode cX6_undo 78 = .ok (.getfield 7, 3) := by decide +kernel
theorem dX6_undo_81 : decode cX6_undo 81 = .ok (.iload_n 1, 1) := by decide +kernel
theorem dX6_undo_82 : decode cX6_undo 82 = .ok (.bipush 8, 2) := by decide +kernel
theorem dX6_undo_84 : decode cX6_undo 84 = .ok (.iadd, 1) := by decide +kernel
theorem dX6_undo_85 : decode cX6_undo 85 = .ok (.iaload, 1) := by decide +kernel
theorem dX6_undo_86 : decode cX6_undo 86 = .ok (.iastore, 1) := by decide +kernel
theorem dX6_undo_87 : decode cX6_undo 87 = .ok (.aload_n 0, 1) := by decide +kernel
theorem dX6_undo_88 : decode cX6_undo 88 = .ok (.getfield 7, 3) := by decide +kernel
theorem dX6_undo_91 : decode cX6_undo 91 = .ok (.iconst 3, 1) := by decide +kernel
theorem dX6_undo_92 : decode cX6_undo 92 = .ok (.aload_n 0, 1) := by decide +kernel
theorem dX6_undo_93 : decode cX6_undo 93 = .ok (.getfield 7, 3) := by decide +kernel
theorem dX6_undo_96 : decode cX6_undo 96 = .ok (.iload_n 1, 1) := by decide +kernel
theorem dX6_undo_97 : decode cX6_undo 97 = .ok (.bipush 9, 2) := by decide +kernel
theorem dX6_undo_99 : decode cX6_undo 99 = .ok (.iadd, 1) := by decide +kernel
theorem dX6_undo_100 : decode cX6_undo 100 = .ok (.iaload, 1) := by decide +kernel
theorem dX6_undo_101 : decode cX6_undo 101 = .ok (.iastore, 1) := by decide +kernel
theorem dX6_undo_102 : decode cX6_undo 102 = .ok (.aload_n 0, 1) := by decide +kernel
theorem dX6_undo_103 : decode cX6_undo 103 = .ok (.getfield 7, 3) := by decide +kernel
theorem dX6_undo_106 : decode cX6_undo 106 = .ok (.iconst 2, 1) := by decide +kernel
theorem dX6_undo_107 : decode cX6_undo 107 = .ok (.iaload, 1) := by decide +kernel
theorem dX6_undo_108 : decode cX6_undo 108 = .ok (.ireturn, 1) := by decide +kernel
theorem dX6_readyIn_0 : decode cX6_readyIn 0 = .ok (.iload_n 0, 1) := by decide +kernel
theorem dX6_readyIn_1 : decode cX6_readyIn 1 = .ok (.tableswitch 52 1 5 #[35, 52, 35, 47, 50], 35) := by decide +kernel
theorem dX6_readyIn_36 : decode cX6_readyIn 36 = .ok (.iload_n 1, 1) := by decide +kernel
theorem dX6_readyIn_37 : decode cX6_readyIn 37 = .ok (.iconst 5, 1) := by decide +kernel
theorem dX6_readyIn_38 : decode cX6_readyIn 38 = .ok (.if_icmp .ge 8, 3) := by decide +kernel
theorem dX6_readyIn_41 : decode cX6_readyIn 41 = .ok (.bipush 8, 2) := by decide +kernel
theorem dX6_readyIn_43 : decode cX6_readyIn 43 = .ok (.goto 4, 3) := by decide +kernel
theorem dX6_readyIn_46 : decode cX6_readyIn 46 = .ok (.iconst 4, 1) := by decide +kernel
theorem dX6_readyIn_47 : decode cX6_readyIn 47 = .ok (.ireturn, 1) := by decide +kernel
theorem dX6_readyIn_48 : decode cX6_readyIn 48 = .ok (.bipush 6, 2) := by decide +kernel
theorem dX6_readyIn_50 : decode cX6_readyIn 50 = .ok (.ireturn, 1) := by decide +kernel
theorem dX6_readyIn_51 : decode cX6_readyIn 51 = .ok (.iconst 3, 1) := by decide +kernel
theorem dX6_readyIn_52 : decode cX6_readyIn 52 = .ok (.ireturn, 1) := by decide +kernel
theorem dX6_readyIn_53 : decode cX6_readyIn 53 = .ok (.iconst 4, 1) := by decide +kernel
theorem dX6_readyIn_54 : decode cX6_readyIn 54 = .ok (.ireturn, 1) := by decide +kernel
theorem dX6_passedIn_0 : decode cX6_passedIn 0 = .ok (.iload_n 0, 1) := by decide +kernel
theorem dX6_passedIn_1 : decode cX6_passedIn 1 = .ok (.tableswitch 50 1 4 #[31, 50, 34, 47], 31) := by decide +kernel
theorem dX6_passedIn_32 : decode cX6_passedIn 32 = .ok (.bipush 8, 2) := by decide +kernel
theorem dX6_passedIn_34 : decode cX6_passedIn 34 = .ok (.ireturn, 1) := by decide +kernel
theorem dX6_passedIn_35 : decode cX6_passedIn 35 = .ok (.iload_n 1, 1) := by decide +kernel
theorem dX6_passedIn_36 : decode cX6_passedIn 36 = .ok (.iconst 5, 1) := by decide +kernel
theorem dX6_passedIn_37 : decode cX6_passedIn 37 = .ok (.if_icmp .ge 8, 3) := by decide +kernel
theorem dX6_passedIn_40 : decode cX6_passedIn 40 = .ok (.bipush 9, 2) := by decide +kernel
theorem dX6_passedIn_42 : decode cX6_passedIn 42 = .ok (.goto 5, 3) := by decide +kernel
theorem dX6_passedIn_45 : decode cX6_passedIn 45 = .ok (.bipush 8, 2) := by decide +kernel
theorem dX6_passedIn_47 : decode cX6_passedIn 47 = .ok (.ireturn, 1) := by decide +kernel
theorem dX6_passedIn_48 : decode cX6_passedIn 48 = .ok (.bipush 9, 2) := by decide +kernel
theorem dX6_passedIn_50 : decode cX6_passedIn 50 = .ok (.ireturn, 1) := by decide +kernel
theorem dX6_passedIn_51 : decode cX6_passedIn 51 = .ok (.bipush 6, 2) := by decide +kernel
theorem dX6_passedIn_53 : decode cX6_passedIn 53 = .ok (.ireturn, 1) := by decide +kernel
theorem dX6_staysFor_0 : decode cX6_staysFor 0 = .ok (.iload_n 0, 1) := by decide +kernel
theorem dX6_staysFor_1 : decode cX6_staysFor 1 = .ok (.iconst 2, 1) := by decide +kernel
theorem dX6_staysFor_2 : decode cX6_staysFor 2 = .ok (.if_icmp .ne 8, 3) := by decide +kernel
theorem dX6_staysFor_5 : decode cX6_staysFor 5 = .ok (.bipush 30, 2) := by decide +kernel
theorem dX6_staysFor_7 : decode cX6_staysFor 7 = .ok (.goto 24, 3) := by decide +kernel
theorem dX6_staysFor_10 : decode cX6_staysFor 10 = .ok (.iload_n 0, 1) := by decide +kernel
theorem dX6_staysFor_11 : decode cX6_staysFor 11 = .ok (.iconst 3, 1) := by decide +kernel
theorem dX6_staysFor_12 : decode cX6_staysFor 12 = .ok (.if_icmp .ne 8, 3) := by decide +kernel
theorem dX6_staysFor_15 : decode cX6_staysFor 15 = .ok (.bipush 20, 2) := by decide +kernel
theorem dX6_staysFor_17 : decode cX6_staysFor 17 = .ok (.goto 14, 3) := by decide +kernel
theorem dX6_staysFor_20 : decode cX6_staysFor 20 = .ok (.iload_n 0, 1) := by decide +kernel
theorem dX6_staysFor_21 : decode cX6_staysFor 21 = .ok (.iconst 5, 1) := by decide +kernel
theorem dX6_staysFor_22 : decode cX6_staysFor 22 = .ok (.if_icmp .ne 8, 3) := by decide +kernel
theorem dX6_staysFor_25 : decode cX6_staysFor 25 = .ok (.bipush 60, 2) := by decide +kernel
theorem dX6_staysFor_27 : decode cX6_staysFor 27 = .ok (.goto 4, 3) := by decide +kernel
theorem dX6_staysFor_30 : decode cX6_staysFor 30 = .ok (.iconst 0, 1) := by decide +kernel
theorem dX6_staysFor_31 : decode cX6_staysFor 31 = .ok (.ireturn, 1) := by decide +kernel
set_option maxRecDepth 20000 in
theorem ggX6_of_X6_isLock : GoodIn wsX6_of wsX6_isLock := goodIn_r _ [7, 8, 9, 10, 6, 11, 2, 12, 13, 14, 33, 34, 35, 36, 37, 38, 39, 40, 41, 42, 43, 44, 45, 46, 47, 48, 49, 50, 51, 52, 53, 54] (by decide +kernel) (by decide +kernel)
set_option maxRecDepth 20000 in
theorem gX6_of_X6_isLock : GoodIn wsX6_of (wsV RX6 87 RX6 yX6_isLock wsX6_isLock) := goodIn_app (goodIn_of _ (by decide +kernel)) ggX6_of_X6_isLock
set_option maxRecDepth 20000 in
theorem ggX6_of_X6_in : GoodIn wsX6_of wsX6_in := goodIn_r _ [14] (by decide +kernel) (by decide +kernel)
set_option maxRecDepth 20000 in
theorem gX6_of_X6_in : GoodIn wsX6_of (va_wsS RX6 62 yX6_in wsX6_in) := goodIn_app (goodIn_of _ (by decide +kernel)) ggX6_of_X6_in
set_option maxRecDepth 20000 in
theorem ggX6_of_X6_bad : GoodIn wsX6_of wsX6_bad := goodIn_r _ [18, 19, 33, 34, 35, 36, 37, 38, 39, 40, 41, 42, 43, 44, 45, 46, 47, 48, 49, 50, 51, 52, 53, 54] (by decide +kernel) (by decide +kernel)
set_option maxRecDepth 20000 in
theorem gX6_of_X6_bad : GoodIn wsX6_of (wsV RX6 68 RX6 yX6_bad wsX6_bad) := goodIn_app (goodIn_of _ (by decide +kernel)) ggX6_of_X6_bad
set_option maxRecDepth 20000 in
theorem ggX6_of_X6_get : GoodIn wsX6_of wsX6_get := goodIn_r _ [23, 2, 33, 34, 35, 36, 37, 38, 39, 40, 41, 42, 43, 44, 45, 46, 47, 48, 49, 50, 51, 52, 53, 54] (by decide +kernel) (by decide +kernel)
set_option maxRecDepth 20000 in
theorem gX6_of_X6_get : GoodIn wsX6_of (wsV RX6 83 RX6 yX6_get wsX6_get) := goodIn_app (goodIn_of _ (by decide +kernel)) ggX6_of_X6_get
set_option maxRecDepth 20000 in
theorem ggX6_of_X6_readyIn : GoodIn wsX6_of wsX6_readyIn := goodIn_r _ [26] (by decide +kernel) (by decide +kernel)
set_option maxRecDepth 20000 in
theorem gX6_of_X6_readyIn : GoodIn wsX6_of (va_wsS RX6 97 yX6_readyIn wsX6_readyIn) := goodIn_app (goodIn_of _ (by decide +kernel)) ggX6_of_X6_readyIn
set_option maxRecDepth 20000 in
theorem ggX6_of_X6_passedIn : GoodIn wsX6_of wsX6_passedIn := goodIn_r _ [29] (by decide +kernel) (by decide +kernel)
set_option maxRecDepth 20000 in
theorem gX6_of_X6_passedIn : GoodIn wsX6_of (va_wsS RX6 100 yX6_passedIn wsX6_passedIn) := goodIn_app (goodIn_of _ (by decide +kernel)) ggX6_of_X6_passedIn
set_option maxRecDepth 20000 in
theorem ggX6_of_X6_staysFor : GoodIn wsX6_of wsX6_staysFor := goodIn_r _ [32] (by decide +kernel) (by decide +kernel)
set_option maxRecDepth 20000 in
theorem gX6_of_X6_staysFor : GoodIn wsX6_of (va_wsS RX6 103 yX6_staysFor wsX6_staysFor) := goodIn_app (goodIn_of _ (by decide +kernel)) ggX6_of_X6_staysFor
theorem dX6_of_0 : decode cX6_of 0 = .ok (.aload_n 0, 1) := by decide +kernel
theorem dX6_of_1 : decode cX6_of 1 = .ok (.iload_n 1, 1) := by decide +kernel
theorem dX6_of_2 : decode cX6_of 2 = .ok (.invokevirtual 87, 3) := by decide +kernel
theorem dX6_of_5 : decode cX6_of 5 = .ok (.ifCond .eq 15, 3) := by decide +kernel
theorem dX6_of_8 : decode cX6_of 8 = .ok (.iload_n 2, 1) := by decide +kernel
theorem dX6_of_9 : decode cX6_of 9 = .ok (.i2l, 1) := by decide +kernel
theorem dX6_of_10 : decode cX6_of 10 = .ok (.lconst 0, 1) := by decide +kernel
theorem dX6_of_11 : decode cX6_of 11 = .ok (.ldc2_w 72, 3) := by decide +kernel
theorem dX6_of_14 : decode cX6_of 14 = .ok (.invokestatic 62, 3) := by decide +kernel
theorem dX6_of_17 : decode cX6_of 17 = .ok (.ifCond .ne 10, 3) := by decide +kernel
theorem dX6_of_20 : decode cX6_of 20 = .ok (.aload_n 0, 1) := by decide +kernel
theorem dX6_of_21 : decode cX6_of 21 = .ok (.bipush (-2), 2) := by decide +kernel
theorem dX6_of_23 : decode cX6_of 23 = .ok (.invokevirtual 68, 3) := by decide +kernel
theorem dX6_of_26 : decode cX6_of 26 = .ok (.ireturn, 1) := by decide +kernel
theorem dX6_of_27 : decode cX6_of 27 = .ok (.aload_n 0, 1) := by decide +kernel
theorem dX6_of_28 : decode cX6_of 28 = .ok (.iload_n 1, 1) := by decide +kernel
theorem dX6_of_29 : decode cX6_of 29 = .ok (.iconst 0, 1) := by decide +kernel
theorem dX6_of_30 : decode cX6_of 30 = .ok (.invokevirtual 83, 3) := by decide +kernel
theorem dX6_of_33 : decode cX6_of 33 = .ok (.istore_n 3, 1) := by decide +kernel
theorem dX6_of_34 : decode cX6_of 34 = .ok (.iload_n 2, 1) := by decide +kernel
theorem dX6_of_35 : decode cX6_of 35 = .ok (.tableswitch 52 3 5 #[25, 36, 47], 25) := by decide +kernel
theorem dX6_of_60 : decode cX6_of 60 = .ok (.iload_n 3, 1) := by decide +kernel
theorem dX6_of_61 : decode cX6_of 61 = .ok (.aload_n 0, 1) := by decide +kernel
theorem dX6_of_62 : decode cX6_of 62 = .ok (.getfield 7, 3) := by decide +kernel
theorem dX6_of_65 : decode cX6_of 65 = .ok (.iconst 1, 1) := by decide +kernel
theorem dX6_of_66 : decode cX6_of 66 = .ok (.iaload, 1) := by decide +kernel
theorem dX6_of_67 : decode cX6_of 67 = .ok (.invokestatic 97, 3) := by decide +kernel
theorem dX6_of_70 : decode cX6_of 70 = .ok (.ireturn, 1) := by decide +kernel
theorem dX6_of_71 : decode cX6_of 71 = .ok (.iload_n 3, 1) := by decide +kernel
theorem dX6_of_72 : decode cX6_of 72 = .ok (.aload_n 0, 1) := by decide +kernel
theorem dX6_of_73 : decode cX6_of 73 = .ok (.getfield 7, 3) := by decide +kernel
theorem dX6_of_76 : decode cX6_of 76 = .ok (.iconst 1, 1) := by decide +kernel
theorem dX6_of_77 : decode cX6_of 77 = .ok (.iaload, 1) := by decide +kernel
theorem dX6_of_78 : decode cX6_of 78 = .ok (.invokestatic 100, 3) := by decide +kernel
theorem dX6_of_81 : decode cX6_of 81 = .ok (.ireturn, 1) := by decide +kernel
theorem dX6_of_82 : decode cX6_of 82 = .ok (.iload_n 3, 1) := by decide +kernel
theorem dX6_of_83 : decode cX6_of 83 = .ok (.invokestatic 103, 3) := by decide +kernel
theorem dX6_of_86 : decode cX6_of 86 = .ok (.ireturn, 1) := by decide +kernel
theorem dX6_of_87 : decode cX6_of 87 = .ok (.aload_n 0, 1) := by decide +kernel
theorem dX6_of_88 : decode cX6_of 88 = .ok (.iload_n 1, 1) := by decide +kernel
theorem dX6_of_89 : decode cX6_of 89 = .ok (.iload_n 2, 1) := by decide +kernel
theorem dX6_of_90 : decode cX6_of 90 = .ok (.invokevirtual 83, 3) := by decide +kernel
theorem dX6_of_93 : decode cX6_of 93 = .ok (.ireturn, 1) := by decide +kernel
set_option maxRecDepth 20000 in
theorem ggX6_layHand_X6_get : GoodIn wsX6_layHand wsX6_get := goodIn_r _ [8, 1, 9, 10, 11, 12, 13, 14, 15, 16, 17, 18, 19, 20, 21, 22, 23, 24, 25, 26, 27, 28, 29, 30] (by decide +kernel) (by decide +kernel)
set_option maxRecDepth 20000 in
theorem gX6_layHand_X6_get : GoodIn wsX6_layHand (wsV RX6 83 RX6 yX6_get wsX6_get) := goodIn_app (goodIn_of _ (by decide +kernel)) ggX6_layHand_X6_get
theorem dX6_layHand_0 : decode cX6_layHand 0 = .ok (.aload_n 0, 1) := by decide +kernel
theorem dX6_layHand_1 : decode cX6_layHand 1 = .ok (.aload_n 0, 1) := by decide +kernel
theorem dX6_layHand_2 : decode cX6_layHand 2 = .ok (.getfield 7, 3) := by decide +kernel
theorem dX6_layHand_5 : decode cX6_layHand 5 = .ok (.iconst 1, 1) := by decide +kernel
theorem dX6_layHand_6 : decode cX6_layHand 6 = .ok (.iaload, 1) := by decide +kernel
theorem dX6_layHand_7 : decode cX6_layHand 7 = .ok (.putfield 106, 3) := by decide +kernel
theorem dX6_layHand_10 : decode cX6_layHand 10 = .ok (.iconst 0, 1) := by decide +kernel
theorem dX6_layHand_11 : decode cX6_layHand 11 = .ok (.istore_n 1, 1) := by decide +kernel
theorem dX6_layHand_12 : decode cX6_layHand 12 = .ok (.iload_n 1, 1) := by decide +kernel
theorem dX6_layHand_13 : decode cX6_layHand 13 = .ok (.bipush 8, 2) := by decide +kernel
theorem dX6_layHand_15 : decode cX6_layHand 15 = .ok (.if_icmp .ge 21, 3) := by decide +kernel
theorem dX6_layHand_18 : decode cX6_layHand 18 = .ok (.aload_n 0, 1) := by decide +kernel
theorem dX6_layHand_19 : decode cX6_layHand 19 = .ok (.getfield 27, 3) := by decide +kernel
theorem dX6_layHand_22 : decode cX6_layHand 22 = .ok (.iload_n 1, 1) := by decide +kernel
theorem dX6_layHand_23 : decode cX6_layHand 23 = .ok (.aload_n 0, 1) := by decide +kernel
theorem dX6_layHand_24 : decode cX6_layHand 24 = .ok (.iload_n 1, 1) := by decide +kernel
theorem dX6_layHand_25 : decode cX6_layHand 25 = .ok (.iconst 1, 1) := by decide +kernel
theorem dX6_layHand_26 : decode cX6_layHand 26 = .ok (.invokevirtual 83, 3) := by decide +kernel
theorem dX6_layHand_29 : decode cX6_layHand 29 = .ok (.iastore, 1) := by decide +kernel
theorem dX6_layHand_30 : decode cX6_layHand 30 = .ok (.iinc 1 1, 3) := by decide +kernel
theorem dX6_layHand_33 : decode cX6_layHand 33 = .ok (.goto (-21), 3) := by decide +kernel
theorem dX6_layHand_36 : decode cX6_layHand 36 = .ok (.return_, 1) := by decide +kernel
set_option maxRecDepth 20000 in
theorem ggX6_lockAt_X6_locks : GoodIn wsX6_lockAt wsX6_locks := goodIn_r _ [5, 6, 7, 8, 9, 10, 11, 12, 13, 14, 15, 16, 17, 18, 19, 20, 21, 22, 23, 24, 25, 26, 27, 28] (by decide +kernel) (by decide +kernel)
set_option maxRecDepth 20000 in
theorem gX6_lockAt_X6_locks : GoodIn wsX6_lockAt (wsV RX6 58 RX6 yX6_locks wsX6_locks) := goodIn_app (goodIn_of _ (by decide +kernel)) ggX6_lockAt_X6_locks
theorem dX6_lockAt_0 : decode cX6_lockAt 0 = .ok (.iload_n 1, 1) := by decide +kernel
theorem dX6_lockAt_1 : decode cX6_lockAt 1 = .ok (.iconst 1, 1) := by decide +kernel
theorem dX6_lockAt_2 : decode cX6_lockAt 2 = .ok (.if_icmp .ne 14, 3) := by decide +kernel
theorem dX6_lockAt_5 : decode cX6_lockAt 5 = .ok (.aload_n 0, 1) := by decide +kernel
theorem dX6_lockAt_6 : decode cX6_lockAt 6 = .ok (.invokevirtual 58, 3) := by decide +kernel
theorem dX6_lockAt_9 : decode cX6_lockAt 9 = .ok (.iconst 1, 1) := by decide +kernel
theorem dX6_lockAt_10 : decode cX6_lockAt 10 = .ok (.isub, 1) := by decide +kernel
theorem dX6_lockAt_11 : decode cX6_lockAt 11 = .ok (.iload_n 2, 1) := by decide +kernel
theorem dX6_lockAt_12 : decode cX6_lockAt 12 = .ok (.isub, 1) := by decide +kernel
theorem dX6_lockAt_13 : decode cX6_lockAt 13 = .ok (.goto 4, 3) := by decide +kernel
theorem dX6_lockAt_16 : decode cX6_lockAt 16 = .ok (.iload_n 2, 1) := by decide +kernel
theorem dX6_lockAt_17 : decode cX6_lockAt 17 = .ok (.ireturn, 1) := by decide +kernel
set_option maxRecDepth 20000 in
theorem ggX6_roadFrom_X6_locks : GoodIn wsX6_roadFrom wsX6_locks := goodIn_r _ [5, 6, 11, 12, 13, 14, 15, 16, 17, 18, 19, 20, 21, 22, 23, 24, 25, 26, 27, 28, 29, 30, 31, 32] (by decide +kernel) (by decide +kernel)
set_option maxRecDepth 20000 in
theorem gX6_roadFrom_X6_locks : GoodIn wsX6_roadFrom (wsV RX6 58 RX6 yX6_locks wsX6_locks) := goodIn_app (goodIn_of _ (by decide +kernel)) ggX6_roadFrom_X6_locks
set_option maxRecDepth 20000 in
theorem ggX6_roadFrom_X6_get : GoodIn wsX6_roadFrom wsX6_get := goodIn_r _ [10, 6, 11, 12, 13, 14, 15, 16, 17, 18, 19, 20, 21, 22, 23, 24, 25, 26, 27, 28, 29, 30, 31, 32] (by decide +kernel) (by decide +kernel)
set_option maxRecDepth 20000 in
theorem gX6_roadFrom_X6_get : GoodIn wsX6_roadFrom (wsV RX6 83 RX6 yX6_get wsX6_get) := goodIn_app (goodIn_of _ (by decide +kernel)) ggX6_roadFrom_X6_get
theorem dX6_roadFrom_0 : decode cX6_roadFrom 0 = .ok (.aload_n 0, 1) := by decide +kernel
theorem dX6_roadFrom_1 : decode cX6_roadFrom 1 = .ok (.iload_n 1, 1) := by decide +kernel
theorem dX6_roadFrom_2 : decode cX6_roadFrom 2 = .ok (.iconst 1, 1) := by decide +kernel
theorem dX6_roadFrom_3 : decode cX6_roadFrom 3 = .ok (.if_icmp .ne 14, 3) := by decide +kernel
theorem dX6_roadFrom_6 : decode cX6_roadFrom 6 = .ok (.aload_n 0, 1) := by decide +kernel
theorem dX6_roadFrom_7 : decode cX6_roadFrom 7 = .ok (.invokevirtual 58, 3) := by decide +kernel
theorem dX6_roadFrom_10 : decode cX6_roadFrom 10 = .ok (.iconst 2, 1) := by decide +kernel
theorem dX6_roadFrom_11 : decode cX6_roadFrom 11 = .ok (.isub, 1) := by decide +kernel
theorem dX6_roadFrom_12 : decode cX6_roadFrom 12 = .ok (.iload_n 2, 1) := by decide +kernel
theorem dX6_roadFrom_13 : decode cX6_roadFrom 13 = .ok (.isub, 1) := by decide +kernel
theorem dX6_roadFrom_14 : decode cX6_roadFrom 14 = .ok (.goto 4, 3) := by decide +kernel
theorem dX6_roadFrom_17 : decode cX6_roadFrom 17 = .ok (.iload_n 2, 1) := by decide +kernel
theorem dX6_roadFrom_18 : decode cX6_roadFrom 18 = .ok (.iconst 2, 1) := by decide +kernel
theorem dX6_roadFrom_19 : decode cX6_roadFrom 19 = .ok (.invokevirtual 83, 3) := by decide +kernel
theorem dX6_roadFrom_22 : decode cX6_roadFrom 22 = .ok (.ireturn, 1) := by decide +kernel
theorem dX6_walk_0 : decode cX6_walk 0 = .ok (.iload_n 1, 1) := by decide +kernel
theorem dX6_walk_1 : decode cX6_walk 1 = .ok (.iconst 2, 1) := by decide +kernel
theorem dX6_walk_2 : decode cX6_walk 2 = .ok (.if_icmp .ne 11, 3) := by decide +kernel
theorem dX6_walk_5 : decode cX6_walk 5 = .ok (.iload_n 0, 1) := by decide +kernel
theorem dX6_walk_6 : decode cX6_walk 6 = .ok (.iconst 1, 1) := by decide +kernel
theorem dX6_walk_7 : decode cX6_walk 7 = .ok (.iadd, 1) := by decide +kernel
theorem dX6_walk_8 : decode cX6_walk 8 = .ok (.iconst 2, 1) := by decide +kernel
theorem dX6_walk_9 : decode cX6_walk 9 = .ok (.idiv, 1) := by decide +kernel
theorem dX6_walk_10 : decode cX6_walk 10 = .ok (.goto 4, 3) := by decide +kernel
theorem dX6_walk_13 : decode cX6_walk 13 = .ok (.iload_n 0, 1) := by decide +kernel
theorem dX6_walk_14 : decode cX6_walk 14 = .ok (.ireturn, 1) := by decide +kernel
set_option maxRecDepth 20000 in
theorem ggX6_goRun_X6_locks : GoodIn wsX6_goRun wsX6_locks := goodIn_r _ [12, 13, 38, 39, 40, 41, 42, 43, 44, 45, 46, 47, 48, 49, 50, 51, 52, 53, 54, 55, 56, 57, 58, 59] (by decide +kernel) (by decide +kernel)
set_option maxRecDepth 20000 in
theorem gX6_goRun_X6_locks : GoodIn wsX6_goRun (wsV RX6 58 RX6 yX6_locks wsX6_locks) := goodIn_app (goodIn_of _ (by decide +kernel)) ggX6_goRun_X6_locks
set_option maxRecDepth 20000 in
theorem ggX6_goRun_X6_lockAt : GoodIn wsX6_goRun wsX6_lockAt := goodIn_r _ [17, 8, 9, 10, 11, 12, 13, 38, 39, 40, 41, 42, 43, 44, 45, 46, 47, 48, 49, 50, 51, 52, 53, 54, 55, 56, 57, 58, 59] (by decide +kernel) (by decide +kernel)
set_option maxRecDepth 20000 in
theorem gX6_goRun_X6_lockAt : GoodIn wsX6_goRun (wsV RX6 110 RX6 yX6_lockAt wsX6_lockAt) := goodIn_app (goodIn_of _ (by decide +kernel)) ggX6_goRun_X6_lockAt
set_option maxRecDepth 20000 in
theorem ggX6_goRun_X6_get : GoodIn wsX6_goRun wsX6_get := goodIn_r _ [21, 13, 38, 39, 40, 41, 42, 43, 44, 45, 46, 47, 48, 49, 50, 51, 52, 53, 54, 55, 56, 57, 58, 59] (by decide +kernel) (by decide +kernel)
set_option maxRecDepth 20000 in
theorem gX6_goRun_X6_get : GoodIn wsX6_goRun (wsV RX6 83 RX6 yX6_get wsX6_get) := goodIn_app (goodIn_of _ (by decide +kernel)) ggX6_goRun_X6_get
set_option maxRecDepth 20000 in
theorem ggX6_goRun_X6_roadFrom : GoodIn wsX6_goRun wsX6_roadFrom := goodIn_r _ [25, 8, 9, 10, 11, 12, 13, 18, 19, 20, 21, 38, 39, 40, 41, 42, 43, 44, 45, 46, 47, 48, 49, 50, 51, 52, 53, 54, 55, 56, 57, 58, 59] (by decide +kernel) (by decide +kernel)
set_option maxRecDepth 20000 in
theorem gX6_goRun_X6_roadFrom : GoodIn wsX6_goRun (wsV RX6 113 RX6 yX6_roadFrom wsX6_roadFrom) := goodIn_app (goodIn_of _ (by decide +kernel)) ggX6_goRun_X6_roadFrom
set_option maxRecDepth 20000 in
theorem ggX6_goRun_X6_walk : GoodIn wsX6_goRun wsX6_walk := goodIn_r _ [28] (by decide +kernel) (by decide +kernel)
set_option maxRecDepth 20000 in
theorem gX6_goRun_X6_walk : GoodIn wsX6_goRun (va_wsS RX6 116 yX6_walk wsX6_walk) := goodIn_app (goodIn_of _ (by decide +kernel)) ggX6_goRun_X6_walk
set_option maxRecDepth 20000 in
theorem ggX6_goRun_X6_readyIn : GoodIn wsX6_goRun wsX6_readyIn := goodIn_r _ [31] (by decide +kernel) (by decide +kernel)
set_option maxRecDepth 20000 in
theorem gX6_goRun_X6_readyIn : GoodIn wsX6_goRun (va_wsS RX6 97 yX6_readyIn wsX6_readyIn) := goodIn_app (goodIn_of _ (by decide +kernel)) ggX6_goRun_X6_readyIn
set_option maxRecDepth 20000 in
theorem ggX6_goRun_X6_staysFor : GoodIn wsX6_goRun wsX6_staysFor := goodIn_r _ [34] (by decide +kernel) (by decide +kernel)
set_option maxRecDepth 20000 in
theorem gX6_goRun_X6_staysFor : GoodIn wsX6_goRun (va_wsS RX6 103 yX6_staysFor wsX6_staysFor) := goodIn_app (goodIn_of _ (by decide +kernel)) ggX6_goRun_X6_staysFor
set_option maxRecDepth 20000 in
theorem ggX6_goRun_X6_passedIn : GoodIn wsX6_goRun wsX6_passedIn := goodIn_r _ [37] (by decide +kernel) (by decide +kernel)
set_option maxRecDepth 20000 in
theorem gX6_goRun_X6_passedIn : GoodIn wsX6_goRun (va_wsS RX6 100 yX6_passedIn wsX6_passedIn) := goodIn_app (goodIn_of _ (by decide +kernel)) ggX6_goRun_X6_passedIn
theorem dX6_goRun_0 : decode cX6_goRun 0 = .ok (.iconst 0, 1) := by decide +kernel
theorem dX6_goRun_1 : decode cX6_goRun 1 = .ok (.istore 5, 2) := by decide +kernel
theorem dX6_goRun_3 : decode cX6_goRun 3 = .ok (.iconst 0, 1) := by decide +kernel
theorem dX6_goRun_4 : decode cX6_goRun 4 = .ok (.istore 6, 2) := by decide +kernel
theorem dX6_goRun_6 : decode cX6_goRun 6 = .ok (.iload 6, 2) := by decide +kernel
theorem dX6_goRun_8 : decode cX6_goRun 8 = .ok (.aload_n 0, 1) := by decide +kernel
theorem dX6_goRun_9 : decode cX6_goRun 9 = .ok (.invokevirtual 58, 3) := by decide +kernel
theorem dX6_goRun_12 : decode cX6_goRun 12 = .ok (.if_icmp .ge 401, 3) := by decide +kernel
theorem dX6_goRun_15 : decode cX6_goRun 15 = .ok (.aload_n 0, 1) := by decide +kernel
theorem dX6_goRun_16 : decode cX6_goRun 16 = .ok (.iload_n 1, 1) := by decide +kernel
theorem dX6_goRun_17 : decode cX6_goRun 17 = .ok (.iload 6, 2) := by decide +kernel
theorem dX6_goRun_19 : decode cX6_goRun 19 = .ok (.invokevirtual 110, 3) := by decide +kernel
theorem dX6_goRun_22 : decode cX6_goRun 22 = .ok (.istore 7, 2) := by decide +kernel
theorem dX6_goRun_24 : decode cX6_goRun 24 = .ok (.aload_n 0, 1) := by decide +kernel
theorem dX6_goRun_25 : decode cX6_goRun 25 = .ok (.iload 7, 2) := by decide +kernel
theorem dX6_goRun_27 : decode cX6_goRun 27 = .ok (.iconst 0, 1) := by decide +kernel
theorem dX6_goRun_28 : decode cX6_goRun 28 = .ok (.invokevirtual 83, 3) := by decide +kernel
theorem dX6_goRun_31 : decode cX6_goRun 31 = .ok (.istore 8, 2) := by decide +kernel
theorem dX6_goRun_33 : decode cX6_goRun 33 = .ok (.aload_n 0, 1) := by decide +kernel
theorem dX6_goRun_34 : decode cX6_goRun 34 = .ok (.getfield 27, 3) := by decide +kernel
theorem dX6_goRun_37 : decode cX6_goRun 37 = .ok (.iload 7, 2) := by decide +kernel
theorem dX6_goRun_39 : decode cX6_goRun 39 = .ok (.iaload, 1) := by decide +kernel
theorem dX6_goRun_40 : decode cX6_goRun 40 = .ok (.iload_n 1, 1) := by decide +kernel
theorem dX6_goRun_41 : decode cX6_goRun 41 = .ok (.if_icmp .ne 7, 3) := by decide +kernel
theorem dX6_goRun_44 : decode cX6_goRun 44 = .ok (.iconst 1, 1) := by decide +kernel
theorem dX6_goRun_45 : decode cX6_goRun 45 = .ok (.goto 4, 3) := by decide +kernel
theorem dX6_goRun_48 : decode cX6_goRun 48 = .ok (.iconst 0, 1) := by decide +kernel
theorem dX6_goRun_49 : decode cX6_goRun 49 = .ok (.istore 9, 2) := by decide +kernel
theorem dX6_goRun_51 : decode cX6_goRun 51 = .ok (.aload_n 0, 1) := by decide +kernel
theorem dX6_goRun_52 : decode cX6_goRun 52 = .ok (.getfield 30, 3) := by decide +kernel
theorem dX6_goRun_55 : decode cX6_goRun 55 = .ok (.iload 6, 2) := by decide +kernel
theorem dX6_goRun_57 : decode cX6_goRun 57 = .ok (.iload 6, 2) := by decide +kernel
theorem dX6_goRun_59 : decode cX6_goRun 59 = .ok (.ifCond .ne 7, 3) := by decide +kernel
theorem dX6_goRun_62 : decode cX6_goRun 62 = .ok (.iconst 0, 1) := by decide +kernel
theorem dX6_goRun_63 : decode cX6_goRun 63 = .ok (.goto 15, 3) := by decide +kernel
theorem dX6_goRun_66 : decode cX6_goRun 66 = .ok (.iload 5, 2) := by decide +kernel
theorem dX6_goRun_68 : decode cX6_goRun 68 = .ok (.aload_n 0, 1) := by decide +kernel
theorem dX6_goRun_69 : decode cX6_goRun 69 = .ok (.iload_n 1, 1) := by decide +kernel
theorem dX6_goRun_70 : decode cX6_goRun 70 = .ok (.iload 6, 2) := by decide +kernel
theorem dX6_goRun_72 : decode cX6_goRun 72 = .ok (.iconst 1, 1) := by decide +kernel
theorem dX6_goRun_73 : decode cX6_goRun 73 = .ok (.isub, 1) := by decide +kernel
theorem dX6_goRun_74 : decode cX6_goRun 74 = .ok (.invokevirtual 113, 3) := by decide +kernel
theorem dX6_goRun_77 : decode cX6_goRun 77 = .ok (.iadd, 1) := by decide +kernel
theorem dX6_goRun_78 : decode cX6_goRun 78 = .ok (.iastore, 1) := by decide +kernel
theorem dX6_goRun_79 : decode cX6_goRun 79 = .ok (.aload_n 0, 1) := by decide +kernel
theorem dX6_goRun_80 : decode cX6_goRun 80 = .ok (.getfield 42, 3) := by decide +kernel
theorem dX6_goRun_83 : decode cX6_goRun 83 = .ok (.iload 6, 2) := by decide +kernel
theorem dX6_goRun_85 : decode cX6_goRun 85 = .ok (.iconst 0, 1) := by decide +kernel
theorem dX6_goRun_86 : decode cX6_goRun 86 = .ok (.iastore, 1) := by decide +kernel
theorem dX6_goRun_87 : decode cX6_goRun 87 = .ok (.aload_n 0, 1) := by decide +kernel
theorem dX6_goRun_88 : decode cX6_goRun 88 = .ok (.getfield 39, 3) := by decide +kernel
theorem dX6_goRun_91 : decode cX6_goRun 91 = .ok (.iload 6, 2) := by decide +kernel
theorem dX6_goRun_93 : decode cX6_goRun 93 = .ok (.iconst (-1), 1) := by decide +kernel
theorem dX6_goRun_94 : decode cX6_goRun 94 = .ok (.iastore, 1) := by decide +kernel
theorem dX6_goRun_95 : decode cX6_goRun 95 = .ok (.aload_n 0, 1) := by decide +kernel
theorem dX6_goRun_96 : decode cX6_goRun 96 = .ok (.getfield 33, 3) := by decide +kernel
theorem dX6_goRun_99 : decode cX6_goRun 99 = .ok (.iload 6, 2) := by decide +kernel
theorem dX6_goRun_101 : decode cX6_goRun 101 = .ok (.aload_n 0, 1) := by decide +kernel
theorem dX6_goRun_102 : decode cX6_goRun 102 = .ok (.getfield 30, 3) := by decide +kernel
theorem dX6_goRun_105 : decode cX6_goRun 105 = .ok (.iload 6, 2) := by decide +kernel
theorem dX6_goRun_107 : decode cX6_goRun 107 = .ok (.iaload, 1) := by decide +kernel
theorem dX6_goRun_108 : decode cX6_goRun 108 = .ok (.iastore, 1) := by decide +kernel
theorem dX6_goRun_109 : decode cX6_goRun 109 = .ok (.iload_n 2, 1) := by decide +kernel
theorem dX6_goRun_110 : decode cX6_goRun 110 = .ok (.ifCond .ne 12, 3) := by decide +kernel
theorem dX6_goRun_113 : decode cX6_goRun 113 = .ok (.iload 9, 2) := by decide +kernel
theorem dX6_goRun_115 : decode cX6_goRun 115 = .ok (.ifCond .ne 7, 3) := by decide +kernel
theorem dX6_goRun_118 : decode cX6_goRun 118 = .ok (.iconst 1, 1) := by decide +kernel
theorem dX6_goRun_119 : decode cX6_goRun 119 = .ok (.goto 4, 3) := by decide +kernel
theorem dX6_goRun_122 : decode cX6_goRun 122 = .ok (.iconst 0, 1) := by decide +kernel
theorem dX6_goRun_123 : decode cX6_goRun 123 = .ok (.istore 10, 2) := by decide +kernel
theorem dX6_goRun_125 : decode cX6_goRun 125 = .ok (.iload_n 2, 1) := by decide +kernel
theorem dX6_goRun_126 : decode cX6_goRun 126 = .ok (.ifCond .le 205, 3) := by decide +kernel
theorem dX6_goRun_129 : decode cX6_goRun 129 = .ok (.iconst 0, 1) := by decide +kernel
theorem dX6_goRun_130 : decode cX6_goRun 130 = .ok (.istore 11, 2) := by decide +kernel
theorem dX6_goRun_132 : decode cX6_goRun 132 = .ok (.iload 6, 2) := by decide +kernel
theorem dX6_goRun_134 : decode cX6_goRun 134 = .ok (.ifCond .le 68, 3) := by decide +kernel
theorem dX6_goRun_137 : decode cX6_goRun 137 = .ok (.aload_n 0, 1) := by decide +kernel
theorem dX6_goRun_138 : decode cX6_goRun 138 = .ok (.getfield 39, 3) := by decide +kernel
theorem dX6_goRun_141 : decode cX6_goRun 141 = .ok (.iload 6, 2) := by decide +kernel
theorem dX6_goRun_143 : decode cX6_goRun 143 = .ok (.iconst 1, 1) := by decide +kernel
theorem dX6_goRun_144 : decode cX6_goRun 144 = .ok (.isub, 1) := by decide +kernel
theorem dX6_goRun_145 : decode cX6_goRun 145 = .ok (.iaload, 1) := by decide +kernel
theorem dX6_goRun_146 : decode cX6_goRun 146 = .ok (.istore 11, 2) := by decide +kernel
theorem dX6_goRun_148 : decode cX6_goRun 148 = .ok (.iload 6, 2) := by decide +kernel
theorem dX6_goRun_150 : decode cX6_goRun 150 = .ok (.iload_n 3, 1) := by decide +kernel
theorem dX6_goRun_151 : decode cX6_goRun 151 = .ok (.if_icmp .lt 29, 3) := by decide +kernel
theorem dX6_goRun_154 : decode cX6_goRun 154 = .ok (.aload_n 0, 1) := by decide +kernel
theorem dX6_goRun_155 : decode cX6_goRun 155 = .ok (.getfield 30, 3) := by decide +kernel
theorem dX6_goRun_158 : decode cX6_goRun 158 = .ok (.iload 6, 2) := by decide +kernel
theorem dX6_goRun_160 : decode cX6_goRun 160 = .ok (.iload_n 3, 1) := by decide +kernel
theorem dX6_goRun_161 : decode cX6_goRun 161 = .ok (.isub, 1) := by decide +kernel
theorem dX6_goRun_162 : decode cX6_goRun 162 = .ok (.iaload, 1) := by decide +kernel
theorem dX6_goRun_163 : decode cX6_goRun 163 = .ok (.iload 11, 2) := by decide +kernel
theorem dX6_goRun_165 : decode cX6_goRun 165 = .ok (.if_icmp .le 15, 3) := by decide +kernel
theorem dX6_goRun_168 : decode cX6_goRun 168 = .ok (.aload_n 0, 1) := by decide +kernel
theorem dX6_goRun_169 : decode cX6_goRun 169 = .ok (.getfield 30, 3) := by decide +kernel
theorem dX6_goRun_172 : decode cX6_goRun 172 = .ok (.iload 6, 2) := by decide +kernel
theorem dX6_goRun_174 : decode cX6_goRun 174 = .ok (.iload_n 3, 1) := by decide +kernel
theorem dX6_goRun_175 : decode cX6_goRun 175 = .ok (.isub, 1) := by decide +kernel
theorem dX6_goRun_176 : decode cX6_goRun 176 = .ok (.iaload, 1) := by decide +kernel
theorem dX6_goRun_177 : decode cX6_goRun 177 = .ok (.goto 5, 3) := by decide +kernel
theorem dX6_goRun_180 : decode cX6_goRun 180 = .ok (.iload 11, 2) := by decide +kernel
theorem dX6_goRun_182 : decode cX6_goRun 182 = .ok (.istore 11, 2) := by decide +kernel
theorem dX6_goRun_184 : decode cX6_goRun 184 = .ok (.iload 11, 2) := by decide +kernel
theorem dX6_goRun_186 : decode cX6_goRun 186 = .ok (.aload_n 0, 1) := by decide +kernel
theorem dX6_goRun_187 : decode cX6_goRun 187 = .ok (.iload_n 1, 1) := by decide +kernel
theorem dX6_goRun_188 : decode cX6_goRun 188 = .ok (.iload 6, 2) := by decide +kernel
theorem dX6_goRun_190 : decode cX6_goRun 190 = .ok (.iconst 1, 1) := by decide +kernel
theorem dX6_goRun_191 : decode cX6_goRun 191 = .ok (.isub, 1) := by decide +kernel
theorem dX6_goRun_192 : decode cX6_goRun 192 = .ok (.invokevirtual 113, 3) := by decide +kernel
theorem dX6_goRun_195 : decode cX6_goRun 195 = .ok (.iload_n 2, 1) := by decide +kernel
theorem dX6_goRun_196 : decode cX6_goRun 196 = .ok (.invokestatic 116, 3) := by decide +kernel
theorem dX6_goRun_199 : decode cX6_goRun 199 = .ok (.iadd, 1) := by decide +kernel
theorem dX6_goRun_200 : decode cX6_goRun 200 = .ok (.istore 11, 2) := by decide +kernel
theorem dX6_goRun_202 : decode cX6_goRun 202 = .ok (.aload_n 0, 1) := by decide +kernel
theorem dX6_goRun_203 : decode cX6_goRun 203 = .ok (.getfield 39, 3) := by decide +kernel
theorem dX6_goRun_206 : decode cX6_goRun 206 = .ok (.iload 6, 2) := by decide +kernel
theorem dX6_goRun_208 : decode cX6_goRun 208 = .ok (.iload 11, 2) := by decide +kernel
theorem dX6_goRun_210 : decode cX6_goRun 210 = .ok (.iload 9, 2) := by decide +kernel
theorem dX6_goRun_212 : decode cX6_goRun 212 = .ok (.ifCond .eq 7, 3) := by decide +kernel
theorem dX6_goRun_215 : decode cX6_goRun 215 = .ok (.iconst 0, 1) := by decide +kernel
theorem dX6_goRun_216 : decode cX6_goRun 216 = .ok (.goto 12, 3) := by decide +kernel
theorem dX6_goRun_219 : decode cX6_goRun 219 = .ok (.iload 8, 2) := by decide +kernel
theorem dX6_goRun_221 : decode cX6_goRun 221 = .ok (.aload_n 0, 1) := by decide +kernel
theorem dX6_goRun_222 : decode cX6_goRun 222 = .ok (.getfield 106, 3) := by decide +kernel
theorem dX6_goRun_225 : decode cX6_goRun 225 = .ok (.invokestatic 97, 3) := by decide +kernel
theorem dX6_goRun_228 : decode cX6_goRun 228 = .ok (.iadd, 1) := by decide +kernel
theorem dX6_goRun_229 : decode cX6_goRun 229 = .ok (.iastore, 1) := by decide +kernel
theorem dX6_goRun_230 : decode cX6_goRun 230 = .ok (.aload_n 0, 1) := by decide +kernel
theorem dX6_goRun_231 : decode cX6_goRun 231 = .ok (.getfield 42, 3) := by decide +kernel
theorem dX6_goRun_234 : decode cX6_goRun 234 = .ok (.iload 6, 2) := by decide +kernel
theorem dX6_goRun_236 : decode cX6_goRun 236 = .ok (.iload 9, 2) := by decide +kernel
theorem dX6_goRun_238 : decode cX6_goRun 238 = .ok (.ifCond .eq 7, 3) := by decide +kernel
theorem dX6_goRun_241 : decode cX6_goRun 241 = .ok (.iconst 0, 1) := by decide +kernel
theorem dX6_goRun_242 : decode cX6_goRun 242 = .ok (.goto 4, 3) := by decide +kernel
theorem dX6_goRun_245 : decode cX6_goRun 245 = .ok (.iconst 1, 1) := by decide +kernel
theorem dX6_goRun_246 : decode cX6_goRun 246 = .ok (.iastore, 1) := by decide +kernel
theorem dX6_goRun_247 : decode cX6_goRun 247 = .ok (.aload_n 0, 1) := by decide +kernel
theorem dX6_goRun_248 : decode cX6_goRun 248 = .ok (.getfield 33, 3) := by decide +kernel
theorem dX6_goRun_251 : decode cX6_goRun 251 = .ok (.iload 6, 2) := by decide +kernel
theorem dX6_goRun_253 : decode cX6_goRun 253 = .ok (.aload_n 0, 1) := by decide +kernel
theorem dX6_goRun_254 : decode cX6_goRun 254 = .ok (.getfield 39, 3) := by decide +kernel
theorem dX6_goRun_257 : decode cX6_goRun 257 = .ok (.iload 6, 2) := by decide +kernel
theorem dX6_goRun_259 : decode cX6_goRun 259 = .ok (.iaload, 1) := by decide +kernel
theorem dX6_goRun_260 : decode cX6_goRun 260 = .ok (.aload_n 0, 1) := by decide +kernel
theorem dX6_goRun_261 : decode cX6_goRun 261 = .ok (.getfield 30, 3) := by decide +kernel
theorem dX6_goRun_264 : decode cX6_goRun 264 = .ok (.iload 6, 2) := by decide +kernel
theorem dX6_goRun_266 : decode cX6_goRun 266 = .ok (.iaload, 1) := by decide +kernel
theorem dX6_goRun_267 : decode cX6_goRun 267 = .ok (.if_icmp .le 13, 3) := by decide +kernel
theorem dX6_goRun_270 : decode cX6_goRun 270 = .ok (.aload_n 0, 1) := by decide +kernel
theorem dX6_goRun_271 : decode cX6_goRun 271 = .ok (.getfield 39, 3) := by decide +kernel
theorem dX6_goRun_274 : decode cX6_goRun 274 = .ok (.iload 6, 2) := by decide +kernel
theorem dX6_goRun_276 : decode cX6_goRun 276 = .ok (.iaload, 1) := by decide +kernel
theorem dX6_goRun_277 : decode cX6_goRun 277 = .ok (.goto 10, 3) := by decide +kernel
theorem dX6_goRun_280 : decode cX6_goRun 280 = .ok (.aload_n 0, 1) := by decide +kernel
theorem dX6_goRun_281 : decode cX6_goRun 281 = .ok (.getfield 30, 3) := by decide +kernel
theorem dX6_goRun_284 : decode cX6_goRun 284 = .ok (.iload 6, 2) := by decide +kernel
theorem dX6_goRun_286 : decode cX6_goRun 286 = .ok (.iaload, 1) := by decide +kernel
theorem dX6_goRun_287 : decode cX6_goRun 287 = .ok (.iastore, 1) := by decide +kernel
theorem dX6_goRun_288 : decode cX6_goRun 288 = .ok (.iload 9, 2) := by decide +kernel
theorem dX6_goRun_290 : decode cX6_goRun 290 = .ok (.ifCond .ne 38, 3) := by decide +kernel
theorem dX6_goRun_293 : decode cX6_goRun 293 = .ok (.iload 8, 2) := by decide +kernel
theorem dX6_goRun_295 : decode cX6_goRun 295 = .ok (.invokestatic 103, 3) := by decide +kernel
theorem dX6_goRun_298 : decode cX6_goRun 298 = .ok (.ifCond .le 30, 3) := by decide +kernel
theorem dX6_goRun_301 : decode cX6_goRun 301 = .ok (.aload_n 0, 1) := by decide +kernel
theorem dX6_goRun_302 : decode cX6_goRun 302 = .ok (.getfield 30, 3) := by decide +kernel
theorem dX6_goRun_305 : decode cX6_goRun 305 = .ok (.iload 6, 2) := by decide +kernel
theorem dX6_goRun_307 : decode cX6_goRun 307 = .ok (.iaload, 1) := by decide +kernel
theorem dX6_goRun_308 : decode cX6_goRun 308 = .ok (.aload_n 0, 1) := by decide +kernel
theorem dX6_goRun_309 : decode cX6_goRun 309 = .ok (.getfield 39, 3) := by decide +kernel
theorem dX6_goRun_312 : decode cX6_goRun 312 = .ok (.iload 6, 2) := by decide +kernel
theorem dX6_goRun_314 : decode cX6_goRun 314 = .ok (.iaload, 1) := by decide +kernel
theorem dX6_goRun_315 : decode cX6_goRun 315 = .ok (.isub, 1) := by decide +kernel
theorem dX6_goRun_316 : decode cX6_goRun 316 = .ok (.iload 8, 2) := by decide +kernel
theorem dX6_goRun_318 : decode cX6_goRun 318 = .ok (.invokestatic 103, 3) := by decide +kernel
theorem dX6_goRun_321 : decode cX6_goRun 321 = .ok (.if_icmp .le 7, 3) := by decide +kernel
theorem dX6_goRun_324 : decode cX6_goRun 324 = .ok (.iconst 1, 1) := by decide +kernel
theorem dX6_goRun_325 : decode cX6_goRun 325 = .ok (.goto 4, 3) := by decide +kernel
theorem dX6_goRun_328 : decode cX6_goRun 328 = .ok (.iconst 0, 1) := by decide +kernel
theorem dX6_goRun_329 : decode cX6_goRun 329 = .ok (.istore 10, 2) := by decide +kernel
theorem dX6_goRun_331 : decode cX6_goRun 331 = .ok (.iload 10, 2) := by decide +kernel
theorem dX6_goRun_333 : decode cX6_goRun 333 = .ok (.ifCond .eq 38, 3) := by decide +kernel
theorem dX6_goRun_336 : decode cX6_goRun 336 = .ok (.aload_n 0, 1) := by decide +kernel
theorem dX6_goRun_337 : decode cX6_goRun 337 = .ok (.getfield 42, 3) := by decide +kernel
theorem dX6_goRun_340 : decode cX6_goRun 340 = .ok (.iload 6, 2) := by decide +kernel
theorem dX6_goRun_342 : decode cX6_goRun 342 = .ok (.dup2, 1) := by decide +kernel
theorem dX6_goRun_343 : decode cX6_goRun 343 = .ok (.iaload, 1) := by decide +kernel
theorem dX6_goRun_344 : decode cX6_goRun 344 = .ok (.iconst 1, 1) := by decide +kernel
theorem dX6_goRun_345 : decode cX6_goRun 345 = .ok (.iadd, 1) := by decide +kernel
theorem dX6_goRun_346 : decode cX6_goRun 346 = .ok (.iastore, 1) := by decide +kernel
theorem dX6_goRun_347 : decode cX6_goRun 347 = .ok (.aload_n 0, 1) := by decide +kernel
theorem dX6_goRun_348 : decode cX6_goRun 348 = .ok (.getfield 33, 3) := by decide +kernel
theorem dX6_goRun_351 : decode cX6_goRun 351 = .ok (.iload 6, 2) := by decide +kernel
theorem dX6_goRun_353 : decode cX6_goRun 353 = .ok (.aload_n 0, 1) := by decide +kernel
theorem dX6_goRun_354 : decode cX6_goRun 354 = .ok (.getfield 30, 3) := by decide +kernel
theorem dX6_goRun_357 : decode cX6_goRun 357 = .ok (.iload 6, 2) := by decide +kernel
theorem dX6_goRun_359 : decode cX6_goRun 359 = .ok (.iaload, 1) := by decide +kernel
theorem dX6_goRun_360 : decode cX6_goRun 360 = .ok (.iload 8, 2) := by decide +kernel
theorem dX6_goRun_362 : decode cX6_goRun 362 = .ok (.aload_n 0, 1) := by decide +kernel
theorem dX6_goRun_363 : decode cX6_goRun 363 = .ok (.getfield 106, 3) := by decide +kernel
theorem dX6_goRun_366 : decode cX6_goRun 366 = .ok (.invokestatic 97, 3) := by decide +kernel
theorem dX6_goRun_369 : decode cX6_goRun 369 = .ok (.iadd, 1) := by decide +kernel
theorem dX6_goRun_370 : decode cX6_goRun 370 = .ok (.iastore, 1) := by decide +kernel
theorem dX6_goRun_371 : decode cX6_goRun 371 = .ok (.aload_n 0, 1) := by decide +kernel
theorem dX6_goRun_372 : decode cX6_goRun 372 = .ok (.getfield 36, 3) := by decide +kernel
theorem dX6_goRun_375 : decode cX6_goRun 375 = .ok (.iload 6, 2) := by decide +kernel
theorem dX6_goRun_377 : decode cX6_goRun 377 = .ok (.aload_n 0, 1) := by decide +kernel
theorem dX6_goRun_378 : decode cX6_goRun 378 = .ok (.getfield 33, 3) := by decide +kernel
theorem dX6_goRun_381 : decode cX6_goRun 381 = .ok (.iload 6, 2) := by decide +kernel
theorem dX6_goRun_383 : decode cX6_goRun 383 = .ok (.iaload, 1) := by decide +kernel
theorem dX6_goRun_384 : decode cX6_goRun 384 = .ok (.iload 8, 2) := by decide +kernel
theorem dX6_goRun_386 : decode cX6_goRun 386 = .ok (.aload_n 0, 1) := by decide +kernel
theorem dX6_goRun_387 : decode cX6_goRun 387 = .ok (.getfield 106, 3) := by decide +kernel
theorem dX6_goRun_390 : decode cX6_goRun 390 = .ok (.invokestatic 100, 3) := by decide +kernel
theorem dX6_goRun_393 : decode cX6_goRun 393 = .ok (.iadd, 1) := by decide +kernel
theorem dX6_goRun_394 : decode cX6_goRun 394 = .ok (.iload 4, 2) := by decide +kernel
theorem dX6_goRun_396 : decode cX6_goRun 396 = .ok (.iadd, 1) := by decide +kernel
theorem dX6_goRun_397 : decode cX6_goRun 397 = .ok (.iastore, 1) := by decide +kernel
theorem dX6_goRun_398 : decode cX6_goRun 398 = .ok (.aload_n 0, 1) := by decide +kernel
theorem dX6_goRun_399 : decode cX6_goRun 399 = .ok (.getfield 36, 3) := by decide +kernel
theorem dX6_goRun_402 : decode cX6_goRun 402 = .ok (.iload 6, 2) := by decide +kernel
theorem dX6_goRun_404 : decode cX6_goRun 404 = .ok (.iaload, 1) := by decide +kernel
theorem dX6_goRun_405 : decode cX6_goRun 405 = .ok (.istore 5, 2) := by decide +kernel
theorem dX6_goRun_407 : decode cX6_goRun 407 = .ok (.iinc 6 1, 3) := by decide +kernel
theorem dX6_goRun_410 : decode cX6_goRun 410 = .ok (.goto (-404), 3) := by decide +kernel
theorem dX6_goRun_413 : decode cX6_goRun 413 = .ok (.iload 5, 2) := by decide +kernel
theorem dX6_goRun_415 : decode cX6_goRun 415 = .ok (.ireturn, 1) := by decide +kernel
set_option maxRecDepth 20000 in
theorem ggX6_waterOf_X6_locks : GoodIn wsX6_waterOf wsX6_locks := goodIn_r _ [6, 7, 8, 9, 10, 11, 12, 13, 14, 15, 16, 17, 18, 19, 20, 21, 22, 23, 24, 25, 26, 27, 28, 29] (by decide +kernel) (by decide +kernel)
set_option maxRecDepth 20000 in
theorem gX6_waterOf_X6_locks : GoodIn wsX6_waterOf (wsV RX6 58 RX6 yX6_locks wsX6_locks) := goodIn_app (goodIn_of _ (by decide +kernel)) ggX6_waterOf_X6_locks
theorem dX6_waterOf_0 : decode cX6_waterOf 0 = .ok (.aload_n 0, 1) := by decide +kernel
theorem dX6_waterOf_1 : decode cX6_waterOf 1 = .ok (.invokevirtual 58, 3) := by decide +kernel
theorem dX6_waterOf_4 : decode cX6_waterOf 4 = .ok (.istore_n 1, 1) := by decide +kernel
theorem dX6_waterOf_5 : decode cX6_waterOf 5 = .ok (.iconst 0, 1) := by decide +kernel
theorem dX6_waterOf_6 : decode cX6_waterOf 6 = .ok (.istore_n 2, 1) := by decide +kernel
theorem dX6_waterOf_7 : decode cX6_waterOf 7 = .ok (.iload_n 2, 1) := by decide +kernel
theorem dX6_waterOf_8 : decode cX6_waterOf 8 = .ok (.aload_n 0, 1) := by decide +kernel
theorem dX6_waterOf_9 : decode cX6_waterOf 9 = .ok (.invokevirtual 58, 3) := by decide +kernel
theorem dX6_waterOf_12 : decode cX6_waterOf 12 = .ok (.if_icmp .ge 18, 3) := by decide +kernel
theorem dX6_waterOf_15 : decode cX6_waterOf 15 = .ok (.iload_n 1, 1) := by decide +kernel
theorem dX6_waterOf_16 : decode cX6_waterOf 16 = .ok (.aload_n 0, 1) := by decide +kernel
theorem dX6_waterOf_17 : decode cX6_waterOf 17 = .ok (.getfield 42, 3) := by decide +kernel
theorem dX6_waterOf_20 : decode cX6_waterOf 20 = .ok (.iload_n 2, 1) := by decide +kernel
theorem dX6_waterOf_21 : decode cX6_waterOf 21 = .ok (.iaload, 1) := by decide +kernel
theorem dX6_waterOf_22 : decode cX6_waterOf 22 = .ok (.iadd, 1) := by decide +kernel
theorem dX6_waterOf_23 : decode cX6_waterOf 23 = .ok (.istore_n 1, 1) := by decide +kernel
theorem dX6_waterOf_24 : decode cX6_waterOf 24 = .ok (.iinc 2 1, 3) := by decide +kernel
theorem dX6_waterOf_27 : decode cX6_waterOf 27 = .ok (.goto (-20), 3) := by decide +kernel
theorem dX6_waterOf_30 : decode cX6_waterOf 30 = .ok (.iload_n 1, 1) := by decide +kernel
theorem dX6_waterOf_31 : decode cX6_waterOf 31 = .ok (.ireturn, 1) := by decide +kernel
set_option maxRecDepth 20000 in
theorem ggX6_isDown_X6_in : GoodIn wsX6_isDown wsX6_in := goodIn_r _ [4] (by decide +kernel) (by decide +kernel)
set_option maxRecDepth 20000 in
theorem gX6_isDown_X6_in : GoodIn wsX6_isDown (va_wsS RX6 62 yX6_in wsX6_in) := goodIn_app (goodIn_of _ (by decide +kernel)) ggX6_isDown_X6_in
theorem dX6_isDown_0 : decode cX6_isDown 0 = .ok (.iload_n 0, 1) := by decide +kernel
theorem dX6_isDown_1 : decode cX6_isDown 1 = .ok (.i2l, 1) := by decide +kernel
theorem dX6_isDown_2 : decode cX6_isDown 2 = .ok (.lconst 0, 1) := by decide +kernel
theorem dX6_isDown_3 : decode cX6_isDown 3 = .ok (.lconst 1, 1) := by decide +kernel
theorem dX6_isDown_4 : decode cX6_isDown 4 = .ok (.invokestatic 62, 3) := by decide +kernel
theorem dX6_isDown_7 : decode cX6_isDown 7 = .ok (.ireturn, 1) := by decide +kernel
set_option maxRecDepth 20000 in
theorem ggX6_isRun_X6_isDown : GoodIn wsX6_isRun wsX6_isDown := goodIn_r _ [6, 7, 8, 5, 9] (by decide +kernel) (by decide +kernel)
set_option maxRecDepth 20000 in
theorem gX6_isRun_X6_isDown : GoodIn wsX6_isRun (va_wsS RX6 119 yX6_isDown wsX6_isDown) := goodIn_app (goodIn_of _ (by decide +kernel)) ggX6_isRun_X6_isDown
set_option maxRecDepth 20000 in
theorem ggX6_isRun_X6_in : GoodIn wsX6_isRun wsX6_in := goodIn_r _ [9] (by decide +kernel) (by decide +kernel)
set_option maxRecDepth 20000 in
theorem gX6_isRun_X6_in : GoodIn wsX6_isRun (va_wsS RX6 62 yX6_in wsX6_in) := goodIn_app (goodIn_of _ (by decide +kernel)) ggX6_isRun_X6_in
theorem dX6_isRun_0 : decode cX6_isRun 0 = .ok (.iload_n 0, 1) := by decide +kernel
theorem dX6_isRun_1 : decode cX6_isRun 1 = .ok (.invokestatic 119, 3) := by decide +kernel
theorem dX6_isRun_4 : decode cX6_isRun 4 = .ok (.ifCond .eq 31, 3) := by decide +kernel
theorem dX6_isRun_7 : decode cX6_isRun 7 = .ok (.iload_n 1, 1) := by decide +kernel
theorem dX6_isRun_8 : decode cX6_isRun 8 = .ok (.i2l, 1) := by decide +kernel
theorem dX6_isRun_9 : decode cX6_isRun 9 = .ok (.lconst 0, 1) := by decide +kernel
theorem dX6_isRun_10 : decode cX6_isRun 10 = .ok (.ldc2_w 122, 3) := by decide +kernel
theorem dX6_isRun_13 : decode cX6_isRun 13 = .ok (.invokestatic 62, 3) := by decide +kernel
theorem dX6_isRun_16 : decode cX6_isRun 16 = .ok (.ifCond .eq 19, 3) := by decide +kernel
theorem dX6_isRun_19 : decode cX6_isRun 19 = .ok (.iload_n 2, 1) := by decide +kernel
theorem dX6_isRun_20 : decode cX6_isRun 20 = .ok (.i2l, 1) := by decide +kernel
theorem dX6_isRun_21 : decode cX6_isRun 21 = .ok (.lconst 1, 1) := by decide +kernel
theorem dX6_isRun_22 : decode cX6_isRun 22 = .ok (.ldc2_w 66, 3) := by decide +kernel
theorem dX6_isRun_25 : decode cX6_isRun 25 = .ok (.invokestatic 62, 3) := by decide +kernel
theorem dX6_isRun_28 : decode cX6_isRun 28 = .ok (.ifCond .eq 7, 3) := by decide +kernel
theorem dX6_isRun_31 : decode cX6_isRun 31 = .ok (.iconst 1, 1) := by decide +kernel
theorem dX6_isRun_32 : decode cX6_isRun 32 = .ok (.goto 4, 3) := by decide +kernel
theorem dX6_isRun_35 : decode cX6_isRun 35 = .ok (.iconst 0, 1) := by decide +kernel
theorem dX6_isRun_36 : decode cX6_isRun 36 = .ok (.ireturn, 1) := by decide +kernel
set_option maxRecDepth 20000 in
theorem ggX6_runNow_X6_layHand : GoodIn wsX6_runNow wsX6_layHand := goodIn_r _ [5, 6, 7, 8, 9, 10, 11, 4, 12, 46, 47, 48, 49, 50, 51, 52, 53, 54, 55, 56, 57, 58, 59, 60, 61, 62, 63, 64, 65, 66, 67] (by decide +kernel) (by decide +kernel)
set_option maxRecDepth 20000 in
theorem gX6_runNow_X6_layHand : GoodIn wsX6_runNow (wsV RX6 124 RX6 yX6_layHand wsX6_layHand) := goodIn_app (goodIn_of _ (by decide +kernel)) ggX6_runNow_X6_layHand
set_option maxRecDepth 20000 in
theorem ggX6_runNow_X6_goRun : GoodIn wsX6_runNow wsX6_goRun := goodIn_r _ [16, 8, 17, 18, 19, 20, 7, 21, 22, 23, 24, 4, 25, 6, 26, 27, 28, 29, 9, 10, 11, 12, 30, 31, 32, 33, 34, 35, 36, 37, 38, 39, 40, 41, 42, 43, 44, 45, 46, 47, 48, 49, 50, 51, 52, 53, 54, 55, 56, 57, 58, 59, 60, 61, 62, 63, 64, 65, 66, 67] (by decide +kernel) (by decide +kernel)
set_option maxRecDepth 20000 in
theorem gX6_runNow_X6_goRun : GoodIn wsX6_runNow (wsV RX6 127 RX6 yX6_goRun wsX6_goRun) := goodIn_app (goodIn_of _ (by decide +kernel)) ggX6_runNow_X6_goRun
theorem dX6_runNow_0 : decode cX6_runNow 0 = .ok (.aload_n 0, 1) := by decide +kernel
theorem dX6_runNow_1 : decode cX6_runNow 1 = .ok (.invokevirtual 124, 3) := by decide +kernel
theorem dX6_runNow_4 : decode cX6_runNow 4 = .ok (.aload_n 0, 1) := by decide +kernel
theorem dX6_runNow_5 : decode cX6_runNow 5 = .ok (.iload_n 1, 1) := by decide +kernel
theorem dX6_runNow_6 : decode cX6_runNow 6 = .ok (.iload_n 2, 1) := by decide +kernel
theorem dX6_runNow_7 : decode cX6_runNow 7 = .ok (.iload_n 3, 1) := by decide +kernel
theorem dX6_runNow_8 : decode cX6_runNow 8 = .ok (.iconst 2, 1) := by decide +kernel
theorem dX6_runNow_9 : decode cX6_runNow 9 = .ok (.iload 4, 2) := by decide +kernel
theorem dX6_runNow_11 : decode cX6_runNow 11 = .ok (.imul, 1) := by decide +kernel
theorem dX6_runNow_12 : decode cX6_runNow 12 = .ok (.invokevirtual 127, 3) := by decide +kernel
theorem dX6_runNow_15 : decode cX6_runNow 15 = .ok (.ireturn, 1) := by decide +kernel
set_option maxRecDepth 20000 in
theorem ggX6_run_X6_isRun : GoodIn wsX6_run wsX6_isRun := goodIn_r _ [5, 6, 7, 8, 9, 4, 10, 11, 12, 13] (by decide +kernel) (by decide +kernel)
set_option maxRecDepth 20000 in
theorem gX6_run_X6_isRun : GoodIn wsX6_run (va_wsS RX6 131 yX6_isRun wsX6_isRun) := goodIn_app (goodIn_of _ (by decide +kernel)) ggX6_run_X6_isRun
set_option maxRecDepth 20000 in
theorem ggX6_run_X6_in : GoodIn wsX6_run wsX6_in := goodIn_r _ [13] (by decide +kernel) (by decide +kernel)
set_option maxRecDepth 20000 in
theorem gX6_run_X6_in : GoodIn wsX6_run (va_wsS RX6 62 yX6_in wsX6_in) := goodIn_app (goodIn_of _ (by decide +kernel)) ggX6_run_X6_in
set_option maxRecDepth 20000 in
theorem ggX6_run_X6_bad : GoodIn wsX6_run wsX6_bad := goodIn_r _ [17, 18, 74, 75, 76, 77, 78, 79, 80, 81, 82, 83, 84, 85, 86, 87, 88, 89, 90, 91, 92, 93, 94, 95] (by decide +kernel) (by decide +kernel)
set_option maxRecDepth 20000 in
theorem gX6_run_X6_bad : GoodIn wsX6_run (wsV RX6 68 RX6 yX6_bad wsX6_bad) := goodIn_app (goodIn_of _ (by decide +kernel)) ggX6_run_X6_bad
set_option maxRecDepth 20000 in
theorem ggX6_run_X6_runNow : GoodIn wsX6_run wsX6_runNow := goodIn_r _ [22, 23, 24, 25, 4, 26, 1, 27, 28, 29, 30, 31, 32, 33, 34, 35, 36, 37, 38, 39, 40, 41, 42, 43, 44, 45, 46, 47, 48, 49, 50, 51, 52, 53, 54, 55, 56, 57, 58, 59, 60, 61, 62, 63, 64, 65, 74, 75, 76, 77, 78, 79, 80, 81, 82, 83, 84, 85, 86, 87, 88, 89, 90, 91, 92, 93, 94, 95] (by decide +kernel) (by decide +kernel)
set_option maxRecDepth 20000 in
theorem gX6_run_X6_runNow : GoodIn wsX6_run (wsV RX6 135 RX6 yX6_runNow wsX6_runNow) := goodIn_app (goodIn_of _ (by decide +kernel)) ggX6_run_X6_runNow
set_option maxRecDepth 20000 in
theorem ggX6_run_X6_keep : GoodIn wsX6_run wsX6_keep := goodIn_r _ [69, 1, 29, 30, 31, 4, 32, 74, 75, 76, 77, 78, 79, 80, 81, 82, 83, 84, 85, 86, 87, 88, 89, 90, 91, 92, 93, 94, 95] (by decide +kernel) (by decide +kernel)
set_option maxRecDepth 20000 in
theorem gX6_run_X6_keep : GoodIn wsX6_run (wsV RX6 91 RX6 yX6_keep wsX6_keep) := goodIn_app (goodIn_of _ (by decide +kernel)) ggX6_run_X6_keep
set_option maxRecDepth 20000 in
theorem ggX6_run_X6_waterOf : GoodIn wsX6_run wsX6_waterOf := goodIn_r _ [73, 38, 42, 43, 44, 4, 45, 1, 74, 75, 76, 77, 78, 79, 80, 81, 82, 83, 84, 85, 86, 87, 88, 89, 90, 91, 92, 93, 94, 95] (by decide +kernel) (by decide +kernel)
set_option maxRecDepth 20000 in
theorem gX6_run_X6_waterOf : GoodIn wsX6_run (wsV RX6 138 RX6 yX6_waterOf wsX6_waterOf) := goodIn_app (goodIn_of _ (by decide +kernel)) ggX6_run_X6_waterOf
set_option maxRecDepth 20000 in
theorem ggX6_run_X6_locks : GoodIn wsX6_run wsX6_locks := goodIn_r _ [45, 1, 74, 75, 76, 77, 78, 79, 80, 81, 82, 83, 84, 85, 86, 87, 88, 89, 90, 91, 92, 93, 94, 95] (by decide +kernel) (by decide +kernel)
set_option maxRecDepth 20000 in
theorem gX6_run_X6_locks : GoodIn wsX6_run (wsV RX6 58 RX6 yX6_locks wsX6_locks) := goodIn_app (goodIn_of _ (by decide +kernel)) ggX6_run_X6_locks
theorem dX6_run_0 : decode cX6_run 0 = .ok (.iload_n 1, 1) := by decide +kernel
theorem dX6_run_1 : decode cX6_run 1 = .ok (.iload_n 2, 1) := by decide +kernel
theorem dX6_run_2 : decode cX6_run 2 = .ok (.iload_n 3, 1) := by decide +kernel
theorem dX6_run_3 : decode cX6_run 3 = .ok (.invokestatic 131, 3) := by decide +kernel
theorem dX6_run_6 : decode cX6_run 6 = .ok (.ifCond .eq 14, 3) := by decide +kernel
theorem dX6_run_9 : decode cX6_run 9 = .ok (.iload 4, 2) := by decide +kernel
theorem dX6_run_11 : decode cX6_run 11 = .ok (.i2l, 1) := by decide +kernel
theorem dX6_run_12 : decode cX6_run 12 = .ok (.lconst 0, 1) := by decide +kernel
theorem dX6_run_13 : decode cX6_run 13 = .ok (.lconst 1, 1) := by decide +kernel
theorem dX6_run_14 : decode cX6_run 14 = .ok (.invokestatic 62, 3) := by decide +kernel
theorem dX6_run_17 : decode cX6_run 17 = .ok (.ifCond .ne 10, 3) := by decide +kernel
theorem dX6_run_20 : decode cX6_run 20 = .ok (.aload_n 0, 1) := by decide +kernel
theorem dX6_run_21 : decode cX6_run 21 = .ok (.bipush (-2), 2) := by decide +kernel
theorem dX6_run_23 : decode cX6_run 23 = .ok (.invokevirtual 68, 3) := by decide +kernel
theorem dX6_run_26 : decode cX6_run 26 = .ok (.ireturn, 1) := by decide +kernel
theorem dX6_run_27 : decode cX6_run 27 = .ok (.aload_n 0, 1) := by decide +kernel
theorem dX6_run_28 : decode cX6_run 28 = .ok (.iload_n 1, 1) := by decide +kernel
theorem dX6_run_29 : decode cX6_run 29 = .ok (.iload_n 2, 1) := by decide +kernel
theorem dX6_run_30 : decode cX6_run 30 = .ok (.iload_n 3, 1) := by decide +kernel
theorem dX6_run_31 : decode cX6_run 31 = .ok (.iload 4, 2) := by decide +kernel
theorem dX6_run_33 : decode cX6_run 33 = .ok (.invokevirtual 135, 3) := by decide +kernel
theorem dX6_run_36 : decode cX6_run 36 = .ok (.istore 5, 2) := by decide +kernel
theorem dX6_run_38 : decode cX6_run 38 = .ok (.aload_n 0, 1) := by decide +kernel
theorem dX6_run_39 : decode cX6_run 39 = .ok (.invokevirtual 91, 3) := by decide +kernel
theorem dX6_run_42 : decode cX6_run 42 = .ok (.aload_n 0, 1) := by decide +kernel
theorem dX6_run_43 : decode cX6_run 43 = .ok (.getfield 7, 3) := by decide +kernel
theorem dX6_run_46 : decode cX6_run 46 = .ok (.iconst 2, 1) := by decide +kernel
theorem dX6_run_47 : decode cX6_run 47 = .ok (.dup2, 1) := by decide +kernel
theorem dX6_run_48 : decode cX6_run 48 = .ok (.iaload, 1) := by decide +kernel
theorem dX6_run_49 : decode cX6_run 49 = .ok (.iload 5, 2) := by decide +kernel
theorem dX6_run_51 : decode cX6_run 51 = .ok (.iadd, 1) := by decide +kernel
theorem dX6_run_52 : decode cX6_run 52 = .ok (.iastore, 1) := by decide +kernel
theorem dX6_run_53 : decode cX6_run 53 = .ok (.aload_n 0, 1) := by decide +kernel
theorem dX6_run_54 : decode cX6_run 54 = .ok (.getfield 7, 3) := by decide +kernel
theorem dX6_run_57 : decode cX6_run 57 = .ok (.iconst 3, 1) := by decide +kernel
theorem dX6_run_58 : decode cX6_run 58 = .ok (.dup2, 1) := by decide +kernel
theorem dX6_run_59 : decode cX6_run 59 = .ok (.iaload, 1) := by decide +kernel
theorem dX6_run_60 : decode cX6_run 60 = .ok (.aload_n 0, 1) := by decide +kernel
theorem dX6_run_61 : decode cX6_run 61 = .ok (.invokevirtual 138, 3) := by decide +kernel
theorem dX6_run_64 : decode cX6_run 64 = .ok (.iadd, 1) := by decide +kernel
theorem dX6_run_65 : decode cX6_run 65 = .ok (.iastore, 1) := by decide +kernel
theorem dX6_run_66 : decode cX6_run 66 = .ok (.iconst 0, 1) := by decide +kernel
theorem dX6_run_67 : decode cX6_run 67 = .ok (.istore 6, 2) := by decide +kernel
theorem dX6_run_69 : decode cX6_run 69 = .ok (.iload 6, 2) := by decide +kernel
theorem dX6_run_71 : decode cX6_run 71 = .ok (.aload_n 0, 1) := by decide +kernel
theorem dX6_run_72 : decode cX6_run 72 = .ok (.invokevirtual 58, 3) := by decide +kernel
theorem dX6_run_75 : decode cX6_run 75 = .ok (.if_icmp .ge 26, 3) := by decide +kernel
theorem dX6_run_78 : decode cX6_run 78 = .ok (.aload_n 0, 1) := by decide +kernel
theorem dX6_run_79 : decode cX6_run 79 = .ok (.getfield 7, 3) := by decide +kernel
theorem dX6_run_82 : decode cX6_run 82 = .ok (.bipush 6, 2) := by decide +kernel
theorem dX6_run_84 : decode cX6_run 84 = .ok (.iconst 3, 1) := by decide +kernel
theorem dX6_run_85 : decode cX6_run 85 = .ok (.iload 6, 2) := by decide +kernel
theorem dX6_run_87 : decode cX6_run 87 = .ok (.imul, 1) := by decide +kernel
theorem dX6_run_88 : decode cX6_run 88 = .ok (.iadd, 1) := by decide +kernel
theorem dX6_run_89 : decode cX6_run 89 = .ok (.iconst 1, 1) := by decide +kernel
theorem dX6_run_90 : decode cX6_run 90 = .ok (.iadd, 1) := by decide +kernel
theorem dX6_run_91 : decode cX6_run 91 = .ok (.iconst 1, 1) := by decide +kernel
theorem dX6_run_92 : decode cX6_run 92 = .ok (.iload_n 1, 1) := by decide +kernel
theorem dX6_run_93 : decode cX6_run 93 = .ok (.isub, 1) := by decide +kernel
theorem dX6_run_94 : decode cX6_run 94 = .ok (.iastore, 1) := by decide +kernel
theorem dX6_run_95 : decode cX6_run 95 = .ok (.iinc 6 1, 3) := by decide +kernel
theorem dX6_run_98 : decode cX6_run 98 = .ok (.goto (-29), 3) := by decide +kernel
theorem dX6_run_101 : decode cX6_run 101 = .ok (.iload 5, 2) := by decide +kernel
theorem dX6_run_103 : decode cX6_run 103 = .ok (.ireturn, 1) := by decide +kernel
set_option maxRecDepth 20000 in
theorem ggX6_takes_X6_isRun : GoodIn wsX6_takes wsX6_isRun := goodIn_r _ [4, 5, 6, 7, 8, 3, 9, 10, 11, 12] (by decide +kernel) (by decide +kernel)
set_option maxRecDepth 20000 in
theorem gX6_takes_X6_isRun : GoodIn wsX6_takes (va_wsS RX6 131 yX6_isRun wsX6_isRun) := goodIn_app (goodIn_of _ (by decide +kernel)) ggX6_takes_X6_isRun
set_option maxRecDepth 20000 in
theorem ggX6_takes_X6_in : GoodIn wsX6_takes wsX6_in := goodIn_r _ [12] (by decide +kernel) (by decide +kernel)
set_option maxRecDepth 20000 in
theorem gX6_takes_X6_in : GoodIn wsX6_takes (va_wsS RX6 62 yX6_in wsX6_in) := goodIn_app (goodIn_of _ (by decide +kernel)) ggX6_takes_X6_in
set_option maxRecDepth 20000 in
theorem ggX6_takes_X6_bad : GoodIn wsX6_takes wsX6_bad := goodIn_r _ [16, 17, 70, 71, 72, 73, 74, 75, 76, 77, 78, 79, 80, 81, 82, 83, 84, 85, 86, 87, 88, 89, 90, 91] (by decide +kernel) (by decide +kernel)
set_option maxRecDepth 20000 in
theorem gX6_takes_X6_bad : GoodIn wsX6_takes (wsV RX6 68 RX6 yX6_bad wsX6_bad) := goodIn_app (goodIn_of _ (by decide +kernel)) ggX6_takes_X6_bad
set_option maxRecDepth 20000 in
theorem ggX6_takes_X6_runNow : GoodIn wsX6_takes wsX6_runNow := goodIn_r _ [21, 22, 23, 24, 3, 25, 26, 27, 28, 29, 30, 31, 32, 33, 34, 35, 36, 37, 38, 39, 40, 41, 42, 43, 44, 45, 46, 47, 48, 49, 50, 51, 52, 53, 54, 55, 56, 57, 58, 59, 60, 61, 62, 63, 64, 65, 70, 71, 72, 73, 74, 75, 76, 77, 78, 79, 80, 81, 82, 83, 84, 85, 86, 87, 88, 89, 90, 91] (by decide +kernel) (by decide +kernel)
set_option maxRecDepth 20000 in
theorem gX6_takes_X6_runNow : GoodIn wsX6_takes (wsV RX6 135 RX6 yX6_runNow wsX6_runNow) := goodIn_app (goodIn_of _ (by decide +kernel)) ggX6_takes_X6_runNow
set_option maxRecDepth 20000 in
theorem ggX6_takes_X6_waterOf : GoodIn wsX6_takes wsX6_waterOf := goodIn_r _ [69, 38, 42, 43, 44, 3, 45, 26, 70, 71, 72, 73, 74, 75, 76, 77, 78, 79, 80, 81, 82, 83, 84, 85, 86, 87, 88, 89, 90, 91] (by decide +kernel) (by decide +kernel)
set_option maxRecDepth 20000 in
theorem gX6_takes_X6_waterOf : GoodIn wsX6_takes (wsV RX6 138 RX6 yX6_waterOf wsX6_waterOf) := goodIn_app (goodIn_of _ (by decide +kernel)) ggX6_takes_X6_waterOf
theorem dX6_takes_0 : decode cX6_takes 0 = .ok (.iload_n 1, 1) := by decide +kernel
theorem dX6_takes_1 : decode cX6_takes 1 = .ok (.iload_n 2, 1) := by decide +kernel
theorem dX6_takes_2 : decode cX6_takes 2 = .ok (.iload_n 3, 1) := by decide +kernel
theorem dX6_takes_3 : decode cX6_takes 3 = .ok (.invokestatic 131, 3) := by decide +kernel
theorem dX6_takes_6 : decode cX6_takes 6 = .ok (.ifCond .eq 25, 3) := by decide +kernel
theorem dX6_takes_9 : decode cX6_takes 9 = .ok (.iload 4, 2) := by decide +kernel
theorem dX6_takes_11 : decode cX6_takes 11 = .ok (.i2l, 1) := by decide +kernel
theorem dX6_takes_12 : decode cX6_takes 12 = .ok (.lconst 0, 1) := by decide +kernel
theorem dX6_takes_13 : decode cX6_takes 13 = .ok (.lconst 1, 1) := by decide +kernel
theorem dX6_takes_14 : decode cX6_takes 14 = .ok (.invokestatic 62, 3) := by decide +kernel
theorem dX6_takes_17 : decode cX6_takes 17 = .ok (.ifCond .eq 14, 3) := by decide +kernel
theorem dX6_takes_20 : decode cX6_takes 20 = .ok (.iload 5, 2) := by decide +kernel
theorem dX6_takes_22 : decode cX6_takes 22 = .ok (.i2l, 1) := by decide +kernel
theorem dX6_takes_23 : decode cX6_takes 23 = .ok (.lconst 0, 1) := by decide +kernel
theorem dX6_takes_24 : decode cX6_takes 24 = .ok (.lconst 1, 1) := by decide +kernel
theorem dX6_takes_25 : decode cX6_takes 25 = .ok (.invokestatic 62, 3) := by decide +kernel
theorem dX6_takes_28 : decode cX6_takes 28 = .ok (.ifCond .ne 10, 3) := by decide +kernel
theorem dX6_takes_31 : decode cX6_takes 31 = .ok (.aload_n 0, 1) := by decide +kernel
theorem dX6_takes_32 : decode cX6_takes 32 = .ok (.bipush (-2), 2) := by decide +kernel
theorem dX6_takes_34 : decode cX6_takes 34 = .ok (.invokevirtual 68, 3) := by decide +kernel
theorem dX6_takes_37 : decode cX6_takes 37 = .ok (.ireturn, 1) := by decide +kernel
theorem dX6_takes_38 : decode cX6_takes 38 = .ok (.aload_n 0, 1) := by decide +kernel
theorem dX6_takes_39 : decode cX6_takes 39 = .ok (.iload_n 1, 1) := by decide +kernel
theorem dX6_takes_40 : decode cX6_takes 40 = .ok (.iload_n 2, 1) := by decide +kernel
theorem dX6_takes_41 : decode cX6_takes 41 = .ok (.iload_n 3, 1) := by decide +kernel
theorem dX6_takes_42 : decode cX6_takes 42 = .ok (.iload 4, 2) := by decide +kernel
theorem dX6_takes_44 : decode cX6_takes 44 = .ok (.invokevirtual 135, 3) := by decide +kernel
theorem dX6_takes_47 : decode cX6_takes 47 = .ok (.istore 6, 2) := by decide +kernel
theorem dX6_takes_49 : decode cX6_takes 49 = .ok (.iload 5, 2) := by decide +kernel
theorem dX6_takes_51 : decode cX6_takes 51 = .ok (.ifCond .ne 8, 3) := by decide +kernel
theorem dX6_takes_54 : decode cX6_takes 54 = .ok (.iload 6, 2) := by decide +kernel
theorem dX6_takes_56 : decode cX6_takes 56 = .ok (.goto 7, 3) := by decide +kernel
theorem dX6_takes_59 : decode cX6_takes 59 = .ok (.aload_n 0, 1) := by decide +kernel
theorem dX6_takes_60 : decode cX6_takes 60 = .ok (.invokevirtual 138, 3) := by decide +kernel
theorem dX6_takes_63 : decode cX6_takes 63 = .ok (.ireturn, 1) := by decide +kernel
set_option maxRecDepth 20000 in
theorem ggX6_at_X6_isRun : GoodIn wsX6_at wsX6_isRun := goodIn_r _ [10, 11, 12, 13, 14, 9, 15, 16, 17, 18] (by decide +kernel) (by decide +kernel)
set_option maxRecDepth 20000 in
theorem gX6_at_X6_isRun : GoodIn wsX6_at (va_wsS RX6 131 yX6_isRun wsX6_isRun) := goodIn_app (goodIn_of _ (by decide +kernel)) ggX6_at_X6_isRun
set_option maxRecDepth 20000 in
theorem ggX6_at_X6_in : GoodIn wsX6_at wsX6_in := goodIn_r _ [18] (by decide +kernel) (by decide +kernel)
set_option maxRecDepth 20000 in
theorem gX6_at_X6_in : GoodIn wsX6_at (va_wsS RX6 62 yX6_in wsX6_in) := goodIn_app (goodIn_of _ (by decide +kernel)) ggX6_at_X6_in
set_option maxRecDepth 20000 in
theorem ggX6_at_X6_isLock : GoodIn wsX6_at wsX6_isLock := goodIn_r _ [22, 23, 24, 25, 9, 26, 27, 16, 17, 18, 71, 72, 73, 74, 75, 76, 77, 78, 79, 80, 81, 82, 83, 84, 85, 86, 87, 88, 89, 90, 91, 92] (by decide +kernel) (by decide +kernel)
set_option maxRecDepth 20000 in
theorem gX6_at_X6_isLock : GoodIn wsX6_at (wsV RX6 87 RX6 yX6_isLock wsX6_isLock) := goodIn_app (goodIn_of _ (by decide +kernel)) ggX6_at_X6_isLock
set_option maxRecDepth 20000 in
theorem ggX6_at_X6_bad : GoodIn wsX6_at wsX6_bad := goodIn_r _ [31, 32, 71, 72, 73, 74, 75, 76, 77, 78, 79, 80, 81, 82, 83, 84, 85, 86, 87, 88, 89, 90, 91, 92] (by decide +kernel) (by decide +kernel)
set_option maxRecDepth 20000 in
theorem gX6_at_X6_bad : GoodIn wsX6_at (wsV RX6 68 RX6 yX6_bad wsX6_bad) := goodIn_app (goodIn_of _ (by decide +kernel)) ggX6_at_X6_bad
set_option maxRecDepth 20000 in
theorem ggX6_at_X6_runNow : GoodIn wsX6_at wsX6_runNow := goodIn_r _ [36, 37, 38, 39, 9, 40, 27, 41, 42, 43, 44, 45, 46, 47, 48, 49, 50, 2, 6, 5, 3, 4, 23, 24, 25, 26, 51, 52, 53, 54, 55, 56, 57, 58, 59, 60, 61, 62, 63, 64, 65, 66, 67, 68, 69, 70, 71, 72, 73, 74, 75, 76, 77, 78, 79, 80, 81, 82, 83, 84, 85, 86, 87, 88, 89, 90, 91, 92] (by decide +kernel) (by decide +kernel)
set_option maxRecDepth 20000 in
theorem gX6_at_X6_runNow : GoodIn wsX6_at (wsV RX6 135 RX6 yX6_runNow wsX6_runNow) := goodIn_app (goodIn_of _ (by decide +kernel)) ggX6_at_X6_runNow
theorem dX6_at_0 : decode cX6_at 0 = .ok (.iload_n 1, 1) := by decide +kernel
theorem dX6_at_1 : decode cX6_at 1 = .ok (.iload_n 2, 1) := by decide +kernel
theorem dX6_at_2 : decode cX6_at 2 = .ok (.iload_n 3, 1) := by decide +kernel
theorem dX6_at_3 : decode cX6_at 3 = .ok (.invokestatic 131, 3) := by decide +kernel
theorem dX6_at_6 : decode cX6_at 6 = .ok (.ifCond .eq 36, 3) := by decide +kernel
theorem dX6_at_9 : decode cX6_at 9 = .ok (.iload 4, 2) := by decide +kernel
theorem dX6_at_11 : decode cX6_at 11 = .ok (.i2l, 1) := by decide +kernel
theorem dX6_at_12 : decode cX6_at 12 = .ok (.lconst 0, 1) := by decide +kernel
theorem dX6_at_13 : decode cX6_at 13 = .ok (.lconst 1, 1) := by decide +kernel
theorem dX6_at_14 : decode cX6_at 14 = .ok (.invokestatic 62, 3) := by decide +kernel
theorem dX6_at_17 : decode cX6_at 17 = .ok (.ifCond .eq 25, 3) := by decide +kernel
theorem dX6_at_20 : decode cX6_at 20 = .ok (.aload_n 0, 1) := by decide +kernel
theorem dX6_at_21 : decode cX6_at 21 = .ok (.iload 5, 2) := by decide +kernel
theorem dX6_at_23 : decode cX6_at 23 = .ok (.invokevirtual 87, 3) := by decide +kernel
theorem dX6_at_26 : decode cX6_at 26 = .ok (.ifCond .eq 16, 3) := by decide +kernel
theorem dX6_at_29 : decode cX6_at 29 = .ok (.iload 6, 2) := by decide +kernel
theorem dX6_at_31 : decode cX6_at 31 = .ok (.i2l, 1) := by decide +kernel
theorem dX6_at_32 : decode cX6_at 32 = .ok (.lconst 0, 1) := by decide +kernel
theorem dX6_at_33 : decode cX6_at 33 = .ok (.ldc2_w 141, 3) := by decide +kernel
theorem dX6_at_36 : decode cX6_at 36 = .ok (.invokestatic 62, 3) := by decide +kernel
theorem dX6_at_39 : decode cX6_at 39 = .ok (.ifCond .ne 10, 3) := by decide +kernel
theorem dX6_at_42 : decode cX6_at 42 = .ok (.aload_n 0, 1) := by decide +kernel
theorem dX6_at_43 : decode cX6_at 43 = .ok (.bipush (-2), 2) := by decide +kernel
theorem dX6_at_45 : decode cX6_at 45 = .ok (.invokevirtual 68, 3) := by decide +kernel
theorem dX6_at_48 : decode cX6_at 48 = .ok (.ireturn, 1) := by decide +kernel
theorem dX6_at_49 : decode cX6_at 49 = .ok (.aload_n 0, 1) := by decide +kernel
theorem dX6_at_50 : decode cX6_at 50 = .ok (.iload_n 1, 1) := by decide +kernel
theorem dX6_at_51 : decode cX6_at 51 = .ok (.iload_n 2, 1) := by decide +kernel
theorem dX6_at_52 : decode cX6_at 52 = .ok (.iload_n 3, 1) := by decide +kernel
theorem dX6_at_53 : decode cX6_at 53 = .ok (.iload 4, 2) := by decide +kernel
theorem dX6_at_55 : decode cX6_at 55 = .ok (.invokevirtual 135, 3) := by decide +kernel
theorem dX6_at_58 : decode cX6_at 58 = .ok (.istore 7, 2) := by decide +kernel
theorem dX6_at_60 : decode cX6_at 60 = .ok (.iload 6, 2) := by decide +kernel
theorem dX6_at_62 : decode cX6_at 62 = .ok (.tableswitch 62 0 3 #[30, 38, 46, 54], 30) := by decide +kernel
theorem dX6_at_92 : decode cX6_at 92 = .ok (.aload_n 0, 1) := by decide +kernel
theorem dX6_at_93 : decode cX6_at 93 = .ok (.getfield 30, 3) := by decide +kernel
theorem dX6_at_96 : decode cX6_at 96 = .ok (.iload 5, 2) := by decide +kernel
theorem dX6_at_98 : decode cX6_at 98 = .ok (.iaload, 1) := by decide +kernel
theorem dX6_at_99 : decode cX6_at 99 = .ok (.ireturn, 1) := by decide +kernel
theorem dX6_at_100 : decode cX6_at 100 = .ok (.aload_n 0, 1) := by decide +kernel
theorem dX6_at_101 : decode cX6_at 101 = .ok (.getfield 33, 3) := by decide +kernel
theorem dX6_at_104 : decode cX6_at 104 = .ok (.iload 5, 2) := by decide +kernel
theorem dX6_at_106 : decode cX6_at 106 = .ok (.iaload, 1) := by decide +kernel
theorem dX6_at_107 : decode cX6_at 107 = .ok (.ireturn, 1) := by decide +kernel
theorem dX6_at_108 : decode cX6_at 108 = .ok (.aload_n 0, 1) := by decide +kernel
theorem dX6_at_109 : decode cX6_at 109 = .ok (.getfield 36, 3) := by decide +kernel
theorem dX6_at_112 : decode cX6_at 112 = .ok (.iload 5, 2) := by decide +kernel
theorem dX6_at_114 : decode cX6_at 114 = .ok (.iaload, 1) := by decide +kernel
theorem dX6_at_115 : decode cX6_at 115 = .ok (.ireturn, 1) := by decide +kernel
theorem dX6_at_116 : decode cX6_at 116 = .ok (.aload_n 0, 1) := by decide +kernel
theorem dX6_at_117 : decode cX6_at 117 = .ok (.getfield 39, 3) := by decide +kernel
theorem dX6_at_120 : decode cX6_at 120 = .ok (.iload 5, 2) := by decide +kernel
theorem dX6_at_122 : decode cX6_at 122 = .ok (.iaload, 1) := by decide +kernel
theorem dX6_at_123 : decode cX6_at 123 = .ok (.ireturn, 1) := by decide +kernel
theorem dX6_at_124 : decode cX6_at 124 = .ok (.aload_n 0, 1) := by decide +kernel
theorem dX6_at_125 : decode cX6_at 125 = .ok (.getfield 42, 3) := by decide +kernel
theorem dX6_at_128 : decode cX6_at 128 = .ok (.iload 5, 2) := by decide +kernel
theorem dX6_at_130 : decode cX6_at 130 = .ok (.iaload, 1) := by decide +kernel
theorem dX6_at_131 : decode cX6_at 131 = .ok (.ireturn, 1) := by decide +kernel
set_option maxRecDepth 20000 in
theorem ggX6_fewestBy_X6_runNow : GoodIn wsX6_fewestBy wsX6_runNow := goodIn_r _ [7, 8, 9, 10, 6, 11, 12, 13, 14, 15, 16, 17, 18, 19, 20, 21, 22, 23, 24, 25, 26, 27, 28, 29, 30, 31, 32, 33, 34, 35, 36, 37, 38, 39, 40, 41, 42, 43, 44, 45, 46, 47, 48, 49, 50, 51, 52, 53, 54, 55, 56, 57, 58, 59, 60, 61, 62, 63, 64, 65, 66, 67, 68, 69, 70, 71, 72, 73] (by decide +kernel) (by decide +kernel)
set_option maxRecDepth 20000 in
theorem gX6_fewestBy_X6_runNow : GoodIn wsX6_fewestBy (wsV RX6 135 RX6 yX6_runNow wsX6_runNow) := goodIn_app (goodIn_of _ (by decide +kernel)) ggX6_fewestBy_X6_runNow
theorem dX6_fewestBy_0 : decode cX6_fewestBy 0 = .ok (.ldc 143, 2) := by decide +kernel
theorem dX6_fewestBy_2 : decode cX6_fewestBy 2 = .ok (.istore 4, 2) := by decide +kernel
theorem dX6_fewestBy_4 : decode cX6_fewestBy 4 = .ok (.iconst 1, 1) := by decide +kernel
theorem dX6_fewestBy_5 : decode cX6_fewestBy 5 = .ok (.istore 5, 2) := by decide +kernel
theorem dX6_fewestBy_7 : decode cX6_fewestBy 7 = .ok (.iload 5, 2) := by decide +kernel
theorem dX6_fewestBy_9 : decode cX6_fewestBy 9 = .ok (.bipush 10, 2) := by decide +kernel
theorem dX6_fewestBy_11 : decode cX6_fewestBy 11 = .ok (.if_icmp .ge 56, 3) := by decide +kernel
theorem dX6_fewestBy_14 : decode cX6_fewestBy 14 = .ok (.aload_n 0, 1) := by decide +kernel
theorem dX6_fewestBy_15 : decode cX6_fewestBy 15 = .ok (.iload_n 1, 1) := by decide +kernel
theorem dX6_fewestBy_16 : decode cX6_fewestBy 16 = .ok (.iload_n 2, 1) := by decide +kernel
theorem dX6_fewestBy_17 : decode cX6_fewestBy 17 = .ok (.iload 5, 2) := by decide +kernel
theorem dX6_fewestBy_19 : decode cX6_fewestBy 19 = .ok (.iload_n 3, 1) := by decide +kernel
theorem dX6_fewestBy_20 : decode cX6_fewestBy 20 = .ok (.invokevirtual 135, 3) := by decide +kernel
theorem dX6_fewestBy_23 : decode cX6_fewestBy 23 = .ok (.istore 6, 2) := by decide +kernel
theorem dX6_fewestBy_25 : decode cX6_fewestBy 25 = .ok (.aload_n 0, 1) := by decide +kernel
theorem dX6_fewestBy_26 : decode cX6_fewestBy 26 = .ok (.iload 6, 2) := by decide +kernel
theorem dX6_fewestBy_28 : decode cX6_fewestBy 28 = .ok (.iload 4, 2) := by decide +kernel
theorem dX6_fewestBy_30 : decode cX6_fewestBy 30 = .ok (.if_icmp .ge 8, 3) := by decide +kernel
theorem dX6_fewestBy_33 : decode cX6_fewestBy 33 = .ok (.iload 5, 2) := by decide +kernel
theorem dX6_fewestBy_35 : decode cX6_fewestBy 35 = .ok (.goto 7, 3) := by decide +kernel
theorem dX6_fewestBy_38 : decode cX6_fewestBy 38 = .ok (.aload_n 0, 1) := by decide +kernel
theorem dX6_fewestBy_39 : decode cX6_fewestBy 39 = .ok (.getfield 144, 3) := by decide +kernel
theorem dX6_fewestBy_42 : decode cX6_fewestBy 42 = .ok (.putfield 144, 3) := by decide +kernel
theorem dX6_fewestBy_45 : decode cX6_fewestBy 45 = .ok (.iload 6, 2) := by decide +kernel
theorem dX6_fewestBy_47 : decode cX6_fewestBy 47 = .ok (.iload 4, 2) := by decide +kernel
theorem dX6_fewestBy_49 : decode cX6_fewestBy 49 = .ok (.if_icmp .ge 8, 3) := by decide +kernel
theorem dX6_fewestBy_52 : decode cX6_fewestBy 52 = .ok (.iload 6, 2) := by decide +kernel
theorem dX6_fewestBy_54 : decode cX6_fewestBy 54 = .ok (.goto 5, 3) := by decide +kernel
theorem dX6_fewestBy_57 : decode cX6_fewestBy 57 = .ok (.iload 4, 2) := by decide +kernel
theorem dX6_fewestBy_59 : decode cX6_fewestBy 59 = .ok (.istore 4, 2) := by decide +kernel
theorem dX6_fewestBy_61 : decode cX6_fewestBy 61 = .ok (.iinc 5 1, 3) := by decide +kernel
theorem dX6_fewestBy_64 : decode cX6_fewestBy 64 = .ok (.goto (-57), 3) := by decide +kernel
theorem dX6_fewestBy_67 : decode cX6_fewestBy 67 = .ok (.iload 4, 2) := by decide +kernel
theorem dX6_fewestBy_69 : decode cX6_fewestBy 69 = .ok (.ireturn, 1) := by decide +kernel
set_option maxRecDepth 20000 in
theorem ggX6_lead_X6_isDown : GoodIn wsX6_lead wsX6_isDown := goodIn_r _ [6, 7, 8, 5, 9] (by decide +kernel) (by decide +kernel)
set_option maxRecDepth 20000 in
theorem gX6_lead_X6_isDown : GoodIn wsX6_lead (va_wsS RX6 119 yX6_isDown wsX6_isDown) := goodIn_app (goodIn_of _ (by decide +kernel)) ggX6_lead_X6_isDown
set_option maxRecDepth 20000 in
theorem ggX6_lead_X6_in : GoodIn wsX6_lead wsX6_in := goodIn_r _ [9] (by decide +kernel) (by decide +kernel)
set_option maxRecDepth 20000 in
theorem gX6_lead_X6_in : GoodIn wsX6_lead (va_wsS RX6 62 yX6_in wsX6_in) := goodIn_app (goodIn_of _ (by decide +kernel)) ggX6_lead_X6_in
set_option maxRecDepth 20000 in
theorem ggX6_lead_X6_bad : GoodIn wsX6_lead wsX6_bad := goodIn_r _ [13, 14, 68, 69, 70, 71, 72, 73, 74, 75, 76, 77, 78, 79, 80, 81, 82, 83, 84, 85, 86, 87, 88, 89] (by decide +kernel) (by decide +kernel)
set_option maxRecDepth 20000 in
theorem gX6_lead_X6_bad : GoodIn wsX6_lead (wsV RX6 68 RX6 yX6_bad wsX6_bad) := goodIn_app (goodIn_of _ (by decide +kernel)) ggX6_lead_X6_bad
set_option maxRecDepth 20000 in
theorem ggX6_lead_X6_fewestBy : GoodIn wsX6_lead wsX6_fewestBy := goodIn_r _ [18, 19, 2, 20, 21, 22, 5, 23, 24, 25, 26, 27, 28, 29, 30, 31, 32, 33, 34, 35, 36, 37, 38, 39, 40, 41, 42, 43, 44, 45, 46, 47, 48, 49, 50, 51, 52, 53, 54, 55, 56, 57, 58, 59, 60, 61, 62, 63, 64, 65, 66, 67, 68, 69, 70, 71, 72, 73, 74, 75, 76, 77, 78, 79, 80, 81, 82, 83, 84, 85, 86, 87, 88, 89] (by decide +kernel) (by decide +kernel)
set_option maxRecDepth 20000 in
theorem gX6_lead_X6_fewestBy : GoodIn wsX6_lead (wsV RX6 147 RX6 yX6_fewestBy wsX6_fewestBy) := goodIn_app (goodIn_of _ (by decide +kernel)) ggX6_lead_X6_fewestBy
theorem dX6_lead_0 : decode cX6_lead 0 = .ok (.iload_n 1, 1) := by decide +kernel
theorem dX6_lead_1 : decode cX6_lead 1 = .ok (.invokestatic 119, 3) := by decide +kernel
theorem dX6_lead_4 : decode cX6_lead 4 = .ok (.ifCond .eq 25, 3) := by decide +kernel
theorem dX6_lead_7 : decode cX6_lead 7 = .ok (.iload_n 2, 1) := by decide +kernel
theorem dX6_lead_8 : decode cX6_lead 8 = .ok (.i2l, 1) := by decide +kernel
theorem dX6_lead_9 : decode cX6_lead 9 = .ok (.lconst 1, 1) := by decide +kernel
theorem dX6_lead_10 : decode cX6_lead 10 = .ok (.ldc2_w 122, 3) := by decide +kernel
theorem dX6_lead_13 : decode cX6_lead 13 = .ok (.invokestatic 62, 3) := by decide +kernel
theorem dX6_lead_16 : decode cX6_lead 16 = .ok (.ifCond .eq 13, 3) := by decide +kernel
theorem dX6_lead_19 : decode cX6_lead 19 = .ok (.iload_n 3, 1) := by decide +kernel
theorem dX6_lead_20 : decode cX6_lead 20 = .ok (.i2l, 1) := by decide +kernel
theorem dX6_lead_21 : decode cX6_lead 21 = .ok (.lconst 0, 1) := by decide +kernel
theorem dX6_lead_22 : decode cX6_lead 22 = .ok (.lconst 1, 1) := by decide +kernel
theorem dX6_lead_23 : decode cX6_lead 23 = .ok (.invokestatic 62, 3) := by decide +kernel
theorem dX6_lead_26 : decode cX6_lead 26 = .ok (.ifCond .ne 10, 3) := by decide +kernel
theorem dX6_lead_29 : decode cX6_lead 29 = .ok (.aload_n 0, 1) := by decide +kernel
theorem dX6_lead_30 : decode cX6_lead 30 = .ok (.bipush (-2), 2) := by decide +kernel
theorem dX6_lead_32 : decode cX6_lead 32 = .ok (.invokevirtual 68, 3) := by decide +kernel
theorem dX6_lead_35 : decode cX6_lead 35 = .ok (.ireturn, 1) := by decide +kernel
theorem dX6_lead_36 : decode cX6_lead 36 = .ok (.aload_n 0, 1) := by decide +kernel
theorem dX6_lead_37 : decode cX6_lead 37 = .ok (.iload_n 1, 1) := by decide +kernel
theorem dX6_lead_38 : decode cX6_lead 38 = .ok (.iload_n 2, 1) := by decide +kernel
theorem dX6_lead_39 : decode cX6_lead 39 = .ok (.iload_n 3, 1) := by decide +kernel
theorem dX6_lead_40 : decode cX6_lead 40 = .ok (.invokevirtual 147, 3) := by decide +kernel
theorem dX6_lead_43 : decode cX6_lead 43 = .ok (.istore 4, 2) := by decide +kernel
theorem dX6_lead_45 : decode cX6_lead 45 = .ok (.aload_n 0, 1) := by decide +kernel
theorem dX6_lead_46 : decode cX6_lead 46 = .ok (.getfield 144, 3) := by decide +kernel
theorem dX6_lead_49 : decode cX6_lead 49 = .ok (.ireturn, 1) := by decide +kernel
set_option maxRecDepth 20000 in
theorem ggX6_worth_X6_isDown : GoodIn wsX6_worth wsX6_isDown := goodIn_r _ [4, 5, 6, 3, 7] (by decide +kernel) (by decide +kernel)
set_option maxRecDepth 20000 in
theorem gX6_worth_X6_isDown : GoodIn wsX6_worth (va_wsS RX6 119 yX6_isDown wsX6_isDown) := goodIn_app (goodIn_of _ (by decide +kernel)) ggX6_worth_X6_isDown
set_option maxRecDepth 20000 in
theorem ggX6_worth_X6_in : GoodIn wsX6_worth wsX6_in := goodIn_r _ [7] (by decide +kernel) (by decide +kernel)
set_option maxRecDepth 20000 in
theorem gX6_worth_X6_in : GoodIn wsX6_worth (va_wsS RX6 62 yX6_in wsX6_in) := goodIn_app (goodIn_of _ (by decide +kernel)) ggX6_worth_X6_in
set_option maxRecDepth 20000 in
theorem ggX6_worth_X6_bad : GoodIn wsX6_worth wsX6_bad := goodIn_r _ [11, 12, 67, 68, 69, 70, 71, 72, 73, 74, 75, 76, 77, 78, 79, 80, 81, 82, 83, 84, 85, 86, 87, 88] (by decide +kernel) (by decide +kernel)
set_option maxRecDepth 20000 in
theorem gX6_worth_X6_bad : GoodIn wsX6_worth (wsV RX6 68 RX6 yX6_bad wsX6_bad) := goodIn_app (goodIn_of _ (by decide +kernel)) ggX6_worth_X6_bad
set_option maxRecDepth 20000 in
theorem ggX6_worth_X6_fewestBy : GoodIn wsX6_worth wsX6_fewestBy := goodIn_r _ [16, 17, 18, 19, 20, 21, 3, 22, 23, 24, 25, 26, 27, 28, 29, 30, 31, 32, 33, 34, 35, 36, 37, 38, 39, 40, 41, 42, 43, 44, 45, 46, 47, 48, 49, 50, 51, 52, 53, 54, 55, 56, 57, 58, 59, 60, 61, 62, 63, 64, 65, 66, 67, 68, 69, 70, 71, 72, 73, 74, 75, 76, 77, 78, 79, 80, 81, 82, 83, 84, 85, 86, 87, 88] (by decide +kernel) (by decide +kernel)
set_option maxRecDepth 20000 in
theorem gX6_worth_X6_fewestBy : GoodIn wsX6_worth (wsV RX6 147 RX6 yX6_fewestBy wsX6_fewestBy) := goodIn_app (goodIn_of _ (by decide +kernel)) ggX6_worth_X6_fewestBy
theorem dX6_worth_0 : decode cX6_worth 0 = .ok (.iload_n 1, 1) := by decide +kernel
theorem dX6_worth_1 : decode cX6_worth 1 = .ok (.invokestatic 119, 3) := by decide +kernel
theorem dX6_worth_4 : decode cX6_worth 4 = .ok (.ifCond .eq 13, 3) := by decide +kernel
theorem dX6_worth_7 : decode cX6_worth 7 = .ok (.iload_n 2, 1) := by decide +kernel
theorem dX6_worth_8 : decode cX6_worth 8 = .ok (.i2l, 1) := by decide +kernel
theorem dX6_worth_9 : decode cX6_worth 9 = .ok (.lconst 0, 1) := by decide +kernel
theorem dX6_worth_10 : decode cX6_worth 10 = .ok (.lconst 1, 1) := by decide +kernel
theorem dX6_worth_11 : decode cX6_worth 11 = .ok (.invokestatic 62, 3) := by decide +kernel
theorem dX6_worth_14 : decode cX6_worth 14 = .ok (.ifCond .ne 11, 3) := by decide +kernel
theorem dX6_worth_17 : decode cX6_worth 17 = .ok (.aload_n 0, 1) := by decide +kernel
theorem dX6_worth_18 : decode cX6_worth 18 = .ok (.sipush (-1000), 3) := by decide +kernel
theorem dX6_worth_21 : decode cX6_worth 21 = .ok (.invokevirtual 68, 3) := by decide +kernel
theorem dX6_worth_24 : decode cX6_worth 24 = .ok (.ireturn, 1) := by decide +kernel
theorem dX6_worth_25 : decode cX6_worth 25 = .ok (.aload_n 0, 1) := by decide +kernel
theorem dX6_worth_26 : decode cX6_worth 26 = .ok (.iload_n 1, 1) := by decide +kernel
theorem dX6_worth_27 : decode cX6_worth 27 = .ok (.iconst 1, 1) := by decide +kernel
theorem dX6_worth_28 : decode cX6_worth 28 = .ok (.iload_n 2, 1) := by decide +kernel
theorem dX6_worth_29 : decode cX6_worth 29 = .ok (.invokevirtual 147, 3) := by decide +kernel
theorem dX6_worth_32 : decode cX6_worth 32 = .ok (.aload_n 0, 1) := by decide +kernel
theorem dX6_worth_33 : decode cX6_worth 33 = .ok (.iload_n 1, 1) := by decide +kernel
theorem dX6_worth_34 : decode cX6_worth 34 = .ok (.iconst 2, 1) := by decide +kernel
theorem dX6_worth_35 : decode cX6_worth 35 = .ok (.iload_n 2, 1) := by decide +kernel
theorem dX6_worth_36 : decode cX6_worth 36 = .ok (.invokevirtual 147, 3) := by decide +kernel
theorem dX6_worth_39 : decode cX6_worth 39 = .ok (.isub, 1) := by decide +kernel
theorem dX6_worth_40 : decode cX6_worth 40 = .ok (.ireturn, 1) := by decide +kernel
set_option maxRecDepth 20000 in
theorem ggX6_strong_X6_isRun : GoodIn wsX6_strong wsX6_isRun := goodIn_r _ [6, 7, 8, 9, 10, 5, 11, 12, 13, 14] (by decide +kernel) (by decide +kernel)
set_option maxRecDepth 20000 in
theorem gX6_strong_X6_isRun : GoodIn wsX6_strong (va_wsS RX6 131 yX6_isRun wsX6_isRun) := goodIn_app (goodIn_of _ (by decide +kernel)) ggX6_strong_X6_isRun
set_option maxRecDepth 20000 in
theorem ggX6_strong_X6_in : GoodIn wsX6_strong wsX6_in := goodIn_r _ [14] (by decide +kernel) (by decide +kernel)
set_option maxRecDepth 20000 in
theorem gX6_strong_X6_in : GoodIn wsX6_strong (va_wsS RX6 62 yX6_in wsX6_in) := goodIn_app (goodIn_of _ (by decide +kernel)) ggX6_strong_X6_in
set_option maxRecDepth 20000 in
theorem ggX6_strong_X6_bad : GoodIn wsX6_strong wsX6_bad := goodIn_r _ [18, 19, 63, 64, 65, 66, 67, 68, 69, 70, 71, 72, 73, 74, 75, 76, 77, 78, 79, 80, 81, 82, 83, 84] (by decide +kernel) (by decide +kernel)
set_option maxRecDepth 20000 in
theorem gX6_strong_X6_bad : GoodIn wsX6_strong (wsV RX6 68 RX6 yX6_bad wsX6_bad) := goodIn_app (goodIn_of _ (by decide +kernel)) ggX6_strong_X6_bad
set_option maxRecDepth 20000 in
theorem ggX6_strong_X6_layHand : GoodIn wsX6_strong wsX6_layHand := goodIn_r _ [23, 24, 2, 25, 26, 27, 28, 5, 29, 63, 64, 65, 66, 67, 68, 69, 70, 71, 72, 73, 74, 75, 76, 77, 78, 79, 80, 81, 82, 83, 84] (by decide +kernel) (by decide +kernel)
set_option maxRecDepth 20000 in
theorem gX6_strong_X6_layHand : GoodIn wsX6_strong (wsV RX6 124 RX6 yX6_layHand wsX6_layHand) := goodIn_app (goodIn_of _ (by decide +kernel)) ggX6_strong_X6_layHand
set_option maxRecDepth 20000 in
theorem ggX6_strong_X6_goRun : GoodIn wsX6_strong wsX6_goRun := goodIn_r _ [33, 25, 34, 35, 36, 37, 2, 38, 39, 40, 41, 5, 42, 24, 43, 44, 45, 46, 26, 27, 28, 29, 47, 48, 49, 50, 51, 52, 53, 54, 55, 56, 57, 58, 59, 60, 61, 62, 63, 64, 65, 66, 67, 68, 69, 70, 71, 72, 73, 74, 75, 76, 77, 78, 79, 80, 81, 82, 83, 84] (by decide +kernel) (by decide +kernel)
set_option maxRecDepth 20000 in
theorem gX6_strong_X6_goRun : GoodIn wsX6_strong (wsV RX6 127 RX6 yX6_goRun wsX6_goRun) := goodIn_app (goodIn_of _ (by decide +kernel)) ggX6_strong_X6_goRun
theorem dX6_strong_0 : decode cX6_strong 0 = .ok (.iload_n 1, 1) := by decide +kernel
theorem dX6_strong_1 : decode cX6_strong 1 = .ok (.iload_n 2, 1) := by decide +kernel
theorem dX6_strong_2 : decode cX6_strong 2 = .ok (.iload_n 3, 1) := by decide +kernel
theorem dX6_strong_3 : decode cX6_strong 3 = .ok (.invokestatic 131, 3) := by decide +kernel
theorem dX6_strong_6 : decode cX6_strong 6 = .ok (.ifCond .eq 14, 3) := by decide +kernel
theorem dX6_strong_9 : decode cX6_strong 9 = .ok (.iload 4, 2) := by decide +kernel
theorem dX6_strong_11 : decode cX6_strong 11 = .ok (.i2l, 1) := by decide +kernel
theorem dX6_strong_12 : decode cX6_strong 12 = .ok (.lconst 0, 1) := by decide +kernel
theorem dX6_strong_13 : decode cX6_strong 13 = .ok (.lconst 1, 1) := by decide +kernel
theorem dX6_strong_14 : decode cX6_strong 14 = .ok (.invokestatic 62, 3) := by decide +kernel
theorem dX6_strong_17 : decode cX6_strong 17 = .ok (.ifCond .ne 10, 3) := by decide +kernel
theorem dX6_strong_20 : decode cX6_strong 20 = .ok (.aload_n 0, 1) := by decide +kernel
theorem dX6_strong_21 : decode cX6_strong 21 = .ok (.bipush (-2), 2) := by decide +kernel
theorem dX6_strong_23 : decode cX6_strong 23 = .ok (.invokevirtual 68, 3) := by decide +kernel
theorem dX6_strong_26 : decode cX6_strong 26 = .ok (.ireturn, 1) := by decide +kernel
theorem dX6_strong_27 : decode cX6_strong 27 = .ok (.iconst 0, 1) := by decide +kernel
theorem dX6_strong_28 : decode cX6_strong 28 = .ok (.istore 5, 2) := by decide +kernel
theorem dX6_strong_30 : decode cX6_strong 30 = .ok (.ldc 143, 2) := by decide +kernel
theorem dX6_strong_32 : decode cX6_strong 32 = .ok (.istore 6, 2) := by decide +kernel
theorem dX6_strong_34 : decode cX6_strong 34 = .ok (.iconst 0, 1) := by decide +kernel
theorem dX6_strong_35 : decode cX6_strong 35 = .ok (.istore 7, 2) := by decide +kernel
theorem dX6_strong_37 : decode cX6_strong 37 = .ok (.iload 7, 2) := by decide +kernel
theorem dX6_strong_39 : decode cX6_strong 39 = .ok (.bipush 10, 2) := by decide +kernel
theorem dX6_strong_41 : decode cX6_strong 41 = .ok (.if_icmp .ge 64, 3) := by decide +kernel
theorem dX6_strong_44 : decode cX6_strong 44 = .ok (.aload_n 0, 1) := by decide +kernel
theorem dX6_strong_45 : decode cX6_strong 45 = .ok (.invokevirtual 124, 3) := by decide +kernel
theorem dX6_strong_48 : decode cX6_strong 48 = .ok (.aload_n 0, 1) := by decide +kernel
theorem dX6_strong_49 : decode cX6_strong 49 = .ok (.iload 7, 2) := by decide +kernel
theorem dX6_strong_51 : decode cX6_strong 51 = .ok (.putfield 106, 3) := by decide +kernel
theorem dX6_strong_54 : decode cX6_strong 54 = .ok (.aload_n 0, 1) := by decide +kernel
theorem dX6_strong_55 : decode cX6_strong 55 = .ok (.iload_n 1, 1) := by decide +kernel
theorem dX6_strong_56 : decode cX6_strong 56 = .ok (.iload_n 2, 1) := by decide +kernel
theorem dX6_strong_57 : decode cX6_strong 57 = .ok (.iload_n 3, 1) := by decide +kernel
theorem dX6_strong_58 : decode cX6_strong 58 = .ok (.iconst 2, 1) := by decide +kernel
theorem dX6_strong_59 : decode cX6_strong 59 = .ok (.iload 4, 2) := by decide +kernel
theorem dX6_strong_61 : decode cX6_strong 61 = .ok (.imul, 1) := by decide +kernel
theorem dX6_strong_62 : decode cX6_strong 62 = .ok (.invokevirtual 127, 3) := by decide +kernel
theorem dX6_strong_65 : decode cX6_strong 65 = .ok (.istore 8, 2) := by decide +kernel
theorem dX6_strong_67 : decode cX6_strong 67 = .ok (.iload 8, 2) := by decide +kernel
theorem dX6_strong_69 : decode cX6_strong 69 = .ok (.iload 6, 2) := by decide +kernel
theorem dX6_strong_71 : decode cX6_strong 71 = .ok (.if_icmp .ge 8, 3) := by decide +kernel
theorem dX6_strong_74 : decode cX6_strong 74 = .ok (.iload 7, 2) := by decide +kernel
theorem dX6_strong_76 : decode cX6_strong 76 = .ok (.goto 5, 3) := by decide +kernel
theorem dX6_strong_79 : decode cX6_strong 79 = .ok (.iload 5, 2) := by decide +kernel
theorem dX6_strong_81 : decode cX6_strong 81 = .ok (.istore 5, 2) := by decide +kernel
theorem dX6_strong_83 : decode cX6_strong 83 = .ok (.iload 8, 2) := by decide +kernel
theorem dX6_strong_85 : decode cX6_strong 85 = .ok (.iload 6, 2) := by decide +kernel
theorem dX6_strong_87 : decode cX6_strong 87 = .ok (.if_icmp .ge 8, 3) := by decide +kernel
theorem dX6_strong_90 : decode cX6_strong 90 = .ok (.iload 8, 2) := by decide +kernel
theorem dX6_strong_92 : decode cX6_strong 92 = .ok (.goto 5, 3) := by decide +kernel
theorem dX6_strong_95 : decode cX6_strong 95 = .ok (.iload 6, 2) := by decide +kernel
theorem dX6_strong_97 : decode cX6_strong 97 = .ok (.istore 6, 2) := by decide +kernel
theorem dX6_strong_99 : decode cX6_strong 99 = .ok (.iinc 7 1, 3) := by decide +kernel
theorem dX6_strong_102 : decode cX6_strong 102 = .ok (.goto (-65), 3) := by decide +kernel
theorem dX6_strong_105 : decode cX6_strong 105 = .ok (.iload 5, 2) := by decide +kernel
theorem dX6_strong_107 : decode cX6_strong 107 = .ok (.ireturn, 1) := by decide +kernel
set_option maxRecDepth 20000 in
theorem ggX6_runWith_X6_layHand : GoodIn wsX6_runWith wsX6_layHand := goodIn_r _ [6, 7, 8, 1, 9, 10, 11, 5, 12, 46, 47, 48, 49, 50, 51, 52, 53, 54, 55, 56, 57, 58, 59, 60, 61, 62, 63, 64, 65, 66, 67] (by decide +kernel) (by decide +kernel)
set_option maxRecDepth 20000 in
theorem gX6_runWith_X6_layHand : GoodIn wsX6_runWith (wsV RX6 124 RX6 yX6_layHand wsX6_layHand) := goodIn_app (goodIn_of _ (by decide +kernel)) ggX6_runWith_X6_layHand
set_option maxRecDepth 20000 in
theorem ggX6_runWith_X6_locks : GoodIn wsX6_runWith wsX6_locks := goodIn_r _ [16, 7, 46, 47, 48, 49, 50, 51, 52, 53, 54, 55, 56, 57, 58, 59, 60, 61, 62, 63, 64, 65, 66, 67] (by decide +kernel) (by decide +kernel)
set_option maxRecDepth 20000 in
theorem gX6_runWith_X6_locks : GoodIn wsX6_runWith (wsV RX6 58 RX6 yX6_locks wsX6_locks) := goodIn_app (goodIn_of _ (by decide +kernel)) ggX6_runWith_X6_locks
set_option maxRecDepth 20000 in
theorem ggX6_runWith_X6_goRun : GoodIn wsX6_runWith wsX6_goRun := goodIn_r _ [20, 1, 21, 22, 23, 24, 8, 25, 13, 14, 15, 5, 16, 7, 26, 27, 28, 29, 9, 10, 11, 12, 30, 31, 32, 33, 34, 35, 36, 37, 38, 39, 40, 41, 42, 43, 44, 45, 46, 47, 48, 49, 50, 51, 52, 53, 54, 55, 56, 57, 58, 59, 60, 61, 62, 63, 64, 65, 66, 67] (by decide +kernel) (by decide +kernel)
set_option maxRecDepth 20000 in
theorem gX6_runWith_X6_goRun : GoodIn wsX6_runWith (wsV RX6 127 RX6 yX6_goRun wsX6_goRun) := goodIn_app (goodIn_of _ (by decide +kernel)) ggX6_runWith_X6_goRun
theorem dX6_runWith_0 : decode cX6_runWith 0 = .ok (.aload_n 0, 1) := by decide +kernel
theorem dX6_runWith_1 : decode cX6_runWith 1 = .ok (.invokevirtual 124, 3) := by decide +kernel
theorem dX6_runWith_4 : decode cX6_runWith 4 = .ok (.iconst 0, 1) := by decide +kernel
theorem dX6_runWith_5 : decode cX6_runWith 5 = .ok (.istore 5, 2) := by decide +kernel
theorem dX6_runWith_7 : decode cX6_runWith 7 = .ok (.iload 5, 2) := by decide +kernel
theorem dX6_runWith_9 : decode cX6_runWith 9 = .ok (.aload_n 0, 1) := by decide +kernel
theorem dX6_runWith_10 : decode cX6_runWith 10 = .ok (.invokevirtual 58, 3) := by decide +kernel
theorem dX6_runWith_13 : decode cX6_runWith 13 = .ok (.if_icmp .ge 37, 3) := by decide +kernel
theorem dX6_runWith_16 : decode cX6_runWith 16 = .ok (.aload_n 0, 1) := by decide +kernel
theorem dX6_runWith_17 : decode cX6_runWith 17 = .ok (.getfield 27, 3) := by decide +kernel
theorem dX6_runWith_20 : decode cX6_runWith 20 = .ok (.iload 5, 2) := by decide +kernel
theorem dX6_runWith_22 : decode cX6_runWith 22 = .ok (.iload_n 1, 1) := by decide +kernel
theorem dX6_runWith_23 : decode cX6_runWith 23 = .ok (.iload 5, 2) := by decide +kernel
theorem dX6_runWith_25 : decode cX6_runWith 25 = .ok (.ishr, 1) := by decide +kernel
theorem dX6_runWith_26 : decode cX6_runWith 26 = .ok (.iconst 1, 1) := by decide +kernel
theorem dX6_runWith_27 : decode cX6_runWith 27 = .ok (.iand, 1) := by decide +kernel
theorem dX6_runWith_28 : decode cX6_runWith 28 = .ok (.iconst 1, 1) := by decide +kernel
theorem dX6_runWith_29 : decode cX6_runWith 29 = .ok (.if_icmp .ne 7, 3) := by decide +kernel
theorem dX6_runWith_32 : decode cX6_runWith 32 = .ok (.iload_n 2, 1) := by decide +kernel
theorem dX6_runWith_33 : decode cX6_runWith 33 = .ok (.goto 10, 3) := by decide +kernel
theorem dX6_runWith_36 : decode cX6_runWith 36 = .ok (.aload_n 0, 1) := by decide +kernel
theorem dX6_runWith_37 : decode cX6_runWith 37 = .ok (.getfield 27, 3) := by decide +kernel
theorem dX6_runWith_40 : decode cX6_runWith 40 = .ok (.iload 5, 2) := by decide +kernel
theorem dX6_runWith_42 : decode cX6_runWith 42 = .ok (.iaload, 1) := by decide +kernel
theorem dX6_runWith_43 : decode cX6_runWith 43 = .ok (.iastore, 1) := by decide +kernel
theorem dX6_runWith_44 : decode cX6_runWith 44 = .ok (.iinc 5 1, 3) := by decide +kernel
theorem dX6_runWith_47 : decode cX6_runWith 47 = .ok (.goto (-40), 3) := by decide +kernel
theorem dX6_runWith_50 : decode cX6_runWith 50 = .ok (.aload_n 0, 1) := by decide +kernel
theorem dX6_runWith_51 : decode cX6_runWith 51 = .ok (.iload_n 2, 1) := by decide +kernel
theorem dX6_runWith_52 : decode cX6_runWith 52 = .ok (.iload_n 3, 1) := by decide +kernel
theorem dX6_runWith_53 : decode cX6_runWith 53 = .ok (.iload 4, 2) := by decide +kernel
theorem dX6_runWith_55 : decode cX6_runWith 55 = .ok (.iconst 0, 1) := by decide +kernel
theorem dX6_runWith_56 : decode cX6_runWith 56 = .ok (.invokevirtual 127, 3) := by decide +kernel
theorem dX6_runWith_59 : decode cX6_runWith 59 = .ok (.ireturn, 1) := by decide +kernel
set_option maxRecDepth 20000 in
theorem ggX6_hire_X6_isRun : GoodIn wsX6_hire wsX6_isRun := goodIn_r _ [6, 7, 8, 9, 10, 5, 11, 12, 13, 14] (by decide +kernel) (by decide +kernel)
set_option maxRecDepth 20000 in
theorem gX6_hire_X6_isRun : GoodIn wsX6_hire (va_wsS RX6 131 yX6_isRun wsX6_isRun) := goodIn_app (goodIn_of _ (by decide +kernel)) ggX6_hire_X6_isRun
set_option maxRecDepth 20000 in
theorem ggX6_hire_X6_in : GoodIn wsX6_hire wsX6_in := goodIn_r _ [14] (by decide +kernel) (by decide +kernel)
set_option maxRecDepth 20000 in
theorem gX6_hire_X6_in : GoodIn wsX6_hire (va_wsS RX6 62 yX6_in wsX6_in) := goodIn_app (goodIn_of _ (by decide +kernel)) ggX6_hire_X6_in
set_option maxRecDepth 20000 in
theorem ggX6_hire_X6_bad : GoodIn wsX6_hire wsX6_bad := goodIn_r _ [18, 19, 71, 72, 73, 74, 75, 76, 77, 78, 79, 80, 81, 82, 83, 84, 85, 86, 87, 88, 89, 90, 91, 92] (by decide +kernel) (by decide +kernel)
set_option maxRecDepth 20000 in
theorem gX6_hire_X6_bad : GoodIn wsX6_hire (wsV RX6 68 RX6 yX6_bad wsX6_bad) := goodIn_app (goodIn_of _ (by decide +kernel)) ggX6_hire_X6_bad
set_option maxRecDepth 20000 in
theorem ggX6_hire_X6_runWith : GoodIn wsX6_hire wsX6_runWith := goodIn_r _ [23, 24, 25, 26, 27, 5, 28, 29, 30, 31, 32, 33, 34, 35, 36, 37, 38, 39, 40, 41, 42, 43, 44, 45, 46, 47, 48, 49, 50, 51, 52, 53, 54, 55, 56, 57, 58, 59, 60, 61, 62, 63, 64, 65, 66, 67, 71, 72, 73, 74, 75, 76, 77, 78, 79, 80, 81, 82, 83, 84, 85, 86, 87, 88, 89, 90, 91, 92] (by decide +kernel) (by decide +kernel)
set_option maxRecDepth 20000 in
theorem gX6_hire_X6_runWith : GoodIn wsX6_hire (wsV RX6 153 RX6 yX6_runWith wsX6_runWith) := goodIn_app (goodIn_of _ (by decide +kernel)) ggX6_hire_X6_runWith
set_option maxRecDepth 20000 in
theorem ggX6_hire_X6_locks : GoodIn wsX6_hire wsX6_locks := goodIn_r _ [38, 29, 71, 72, 73, 74, 75, 76, 77, 78, 79, 80, 81, 82, 83, 84, 85, 86, 87, 88, 89, 90, 91, 92] (by decide +kernel) (by decide +kernel)
set_option maxRecDepth 20000 in
theorem gX6_hire_X6_locks : GoodIn wsX6_hire (wsV RX6 58 RX6 yX6_locks wsX6_locks) := goodIn_app (goodIn_of _ (by decide +kernel)) ggX6_hire_X6_locks
set_option maxRecDepth 20000 in
theorem ggX6_hire_X6_bits : GoodIn wsX6_hire wsX6_bits := goodIn_r _ [70] (by decide +kernel) (by decide +kernel)
set_option maxRecDepth 20000 in
theorem gX6_hire_X6_bits : GoodIn wsX6_hire (va_wsS RX6 156 yX6_bits wsX6_bits) := goodIn_app (goodIn_of _ (by decide +kernel)) ggX6_hire_X6_bits
theorem dX6_hire_0 : decode cX6_hire 0 = .ok (.iload_n 1, 1) := by decide +kernel
theorem dX6_hire_1 : decode cX6_hire 1 = .ok (.iload_n 2, 1) := by decide +kernel
theorem dX6_hire_2 : decode cX6_hire 2 = .ok (.iload_n 3, 1) := by decide +kernel
theorem dX6_hire_3 : decode cX6_hire 3 = .ok (.invokestatic 131, 3) := by decide +kernel
theorem dX6_hire_6 : decode cX6_hire 6 = .ok (.ifCond .eq 27, 3) := by decide +kernel
theorem dX6_hire_9 : decode cX6_hire 9 = .ok (.iload 4, 2) := by decide +kernel
theorem dX6_hire_11 : decode cX6_hire 11 = .ok (.i2l, 1) := by decide +kernel
theorem dX6_hire_12 : decode cX6_hire 12 = .ok (.lconst 0, 1) := by decide +kernel
theorem dX6_hire_13 : decode cX6_hire 13 = .ok (.ldc2_w 151, 3) := by decide +kernel
theorem dX6_hire_16 : decode cX6_hire 16 = .ok (.invokestatic 62, 3) := by decide +kernel
theorem dX6_hire_19 : decode cX6_hire 19 = .ok (.ifCond .eq 14, 3) := by decide +kernel
theorem dX6_hire_22 : decode cX6_hire 22 = .ok (.iload 5, 2) := by decide +kernel
theorem dX6_hire_24 : decode cX6_hire 24 = .ok (.i2l, 1) := by decide +kernel
theorem dX6_hire_25 : decode cX6_hire 25 = .ok (.lconst 0, 1) := by decide +kernel
theorem dX6_hire_26 : decode cX6_hire 26 = .ok (.lconst 1, 1) := by decide +kernel
theorem dX6_hire_27 : decode cX6_hire 27 = .ok (.invokestatic 62, 3) := by decide +kernel
theorem dX6_hire_30 : decode cX6_hire 30 = .ok (.ifCond .ne 10, 3) := by decide +kernel
theorem dX6_hire_33 : decode cX6_hire 33 = .ok (.aload_n 0, 1) := by decide +kernel
theorem dX6_hire_34 : decode cX6_hire 34 = .ok (.bipush (-2), 2) := by decide +kernel
theorem dX6_hire_36 : decode cX6_hire 36 = .ok (.invokevirtual 68, 3) := by decide +kernel
theorem dX6_hire_39 : decode cX6_hire 39 = .ok (.ireturn, 1) := by decide +kernel
theorem dX6_hire_40 : decode cX6_hire 40 = .ok (.iconst 0, 1) := by decide +kernel
theorem dX6_hire_41 : decode cX6_hire 41 = .ok (.istore 6, 2) := by decide +kernel
theorem dX6_hire_43 : decode cX6_hire 43 = .ok (.aload_n 0, 1) := by decide +kernel
theorem dX6_hire_44 : decode cX6_hire 44 = .ok (.iconst 0, 1) := by decide +kernel
theorem dX6_hire_45 : decode cX6_hire 45 = .ok (.iload_n 1, 1) := by decide +kernel
theorem dX6_hire_46 : decode cX6_hire 46 = .ok (.iload_n 2, 1) := by decide +kernel
theorem dX6_hire_47 : decode cX6_hire 47 = .ok (.iload_n 3, 1) := by decide +kernel
theorem dX6_hire_48 : decode cX6_hire 48 = .ok (.invokevirtual 153, 3) := by decide +kernel
theorem dX6_hire_51 : decode cX6_hire 51 = .ok (.istore 7, 2) := by decide +kernel
theorem dX6_hire_53 : decode cX6_hire 53 = .ok (.iconst 1, 1) := by decide +kernel
theorem dX6_hire_54 : decode cX6_hire 54 = .ok (.istore 8, 2) := by decide +kernel
theorem dX6_hire_56 : decode cX6_hire 56 = .ok (.iload 8, 2) := by decide +kernel
theorem dX6_hire_58 : decode cX6_hire 58 = .ok (.iconst 1, 1) := by decide +kernel
theorem dX6_hire_59 : decode cX6_hire 59 = .ok (.aload_n 0, 1) := by decide +kernel
theorem dX6_hire_60 : decode cX6_hire 60 = .ok (.invokevirtual 58, 3) := by decide +kernel
theorem dX6_hire_63 : decode cX6_hire 63 = .ok (.ishl, 1) := by decide +kernel
theorem dX6_hire_64 : decode cX6_hire 64 = .ok (.if_icmp .ge 97, 3) := by decide +kernel
theorem dX6_hire_67 : decode cX6_hire 67 = .ok (.iload 8, 2) := by decide +kernel
theorem dX6_hire_69 : decode cX6_hire 69 = .ok (.invokestatic 156, 3) := by decide +kernel
theorem dX6_hire_72 : decode cX6_hire 72 = .ok (.iload 4, 2) := by decide +kernel
theorem dX6_hire_74 : decode cX6_hire 74 = .ok (.if_icmp .gt 15, 3) := by decide +kernel
theorem dX6_hire_77 : decode cX6_hire 77 = .ok (.aload_n 0, 1) := by decide +kernel
theorem dX6_hire_78 : decode cX6_hire 78 = .ok (.iload 8, 2) := by decide +kernel
theorem dX6_hire_80 : decode cX6_hire 80 = .ok (.iload_n 1, 1) := by decide +kernel
theorem dX6_hire_81 : decode cX6_hire 81 = .ok (.iload_n 2, 1) := by decide +kernel
theorem dX6_hire_82 : decode cX6_hire 82 = .ok (.iload_n 3, 1) := by decide +kernel
theorem dX6_hire_83 : decode cX6_hire 83 = .ok (.invokevirtual 153, 3) := by decide +kernel
theorem dX6_hire_86 : decode cX6_hire 86 = .ok (.goto 5, 3) := by decide +kernel
theorem dX6_hire_89 : decode cX6_hire 89 = .ok (.ldc 143, 2) := by decide +kernel
theorem dX6_hire_91 : decode cX6_hire 91 = .ok (.istore 9, 2) := by decide +kernel
theorem dX6_hire_93 : decode cX6_hire 93 = .ok (.iload 9, 2) := by decide +kernel
theorem dX6_hire_95 : decode cX6_hire 95 = .ok (.iload 7, 2) := by decide +kernel
theorem dX6_hire_97 : decode cX6_hire 97 = .ok (.if_icmp .lt 23, 3) := by decide +kernel
theorem dX6_hire_100 : decode cX6_hire 100 = .ok (.iload 9, 2) := by decide +kernel
theorem dX6_hire_102 : decode cX6_hire 102 = .ok (.iload 7, 2) := by decide +kernel
theorem dX6_hire_104 : decode cX6_hire 104 = .ok (.if_icmp .ne 20, 3) := by decide +kernel
theorem dX6_hire_107 : decode cX6_hire 107 = .ok (.iload 8, 2) := by decide +kernel
theorem dX6_hire_109 : decode cX6_hire 109 = .ok (.invokestatic 156, 3) := by decide +kernel
theorem dX6_hire_112 : decode cX6_hire 112 = .ok (.iload 6, 2) := by decide +kernel
theorem dX6_hire_114 : decode cX6_hire 114 = .ok (.invokestatic 156, 3) := by decide +kernel
theorem dX6_hire_117 : decode cX6_hire 117 = .ok (.if_icmp .ge 7, 3) := by decide +kernel
theorem dX6_hire_120 : decode cX6_hire 120 = .ok (.iconst 1, 1) := by decide +kernel
theorem dX6_hire_121 : decode cX6_hire 121 = .ok (.goto 4, 3) := by decide +kernel
theorem dX6_hire_124 : decode cX6_hire 124 = .ok (.iconst 0, 1) := by decide +kernel
theorem dX6_hire_125 : decode cX6_hire 125 = .ok (.istore 10, 2) := by decide +kernel
theorem dX6_hire_127 : decode cX6_hire 127 = .ok (.iload 10, 2) := by decide +kernel
theorem dX6_hire_129 : decode cX6_hire 129 = .ok (.ifCond .eq 8, 3) := by decide +kernel
theorem dX6_hire_132 : decode cX6_hire 132 = .ok (.iload 8, 2) := by decide +kernel
theorem dX6_hire_134 : decode cX6_hire 134 = .ok (.goto 5, 3) := by decide +kernel
theorem dX6_hire_137 : decode cX6_hire 137 = .ok (.iload 6, 2) := by decide +kernel
theorem dX6_hire_139 : decode cX6_hire 139 = .ok (.istore 6, 2) := by decide +kernel
theorem dX6_hire_141 : decode cX6_hire 141 = .ok (.iload 10, 2) := by decide +kernel
theorem dX6_hire_143 : decode cX6_hire 143 = .ok (.ifCond .eq 8, 3) := by decide +kernel
theorem dX6_hire_146 : decode cX6_hire 146 = .ok (.iload 9, 2) := by decide +kernel
theorem dX6_hire_148 : decode cX6_hire 148 = .ok (.goto 5, 3) := by decide +kernel
theorem dX6_hire_151 : decode cX6_hire 151 = .ok (.iload 7, 2) := by decide +kernel
theorem dX6_hire_153 : decode cX6_hire 153 = .ok (.istore 7, 2) := by decide +kernel
theorem dX6_hire_155 : decode cX6_hire 155 = .ok (.iinc 8 1, 3) := by decide +kernel
theorem dX6_hire_158 : decode cX6_hire 158 = .ok (.goto (-102), 3) := by decide +kernel
theorem dX6_hire_161 : decode cX6_hire 161 = .ok (.iload 5, 2) := by decide +kernel
theorem dX6_hire_163 : decode cX6_hire 163 = .ok (.ifCond .ne 8, 3) := by decide +kernel
theorem dX6_hire_166 : decode cX6_hire 166 = .ok (.iload 6, 2) := by decide +kernel
theorem dX6_hire_168 : decode cX6_hire 168 = .ok (.goto 5, 3) := by decide +kernel
theorem dX6_hire_171 : decode cX6_hire 171 = .ok (.iload 7, 2) := by decide +kernel
theorem dX6_hire_173 : decode cX6_hire 173 = .ok (.ireturn, 1) := by decide +kernel
set_option maxRecDepth 20000 in
theorem ggX6_dark_X6_isRun : GoodIn wsX6_dark wsX6_isRun := goodIn_r _ [6, 7, 8, 9, 10, 5, 11, 12, 13, 14] (by decide +kernel) (by decide +kernel)
set_option maxRecDepth 20000 in
theorem gX6_dark_X6_isRun : GoodIn wsX6_dark (va_wsS RX6 131 yX6_isRun wsX6_isRun) := goodIn_app (goodIn_of _ (by decide +kernel)) ggX6_dark_X6_isRun
set_option maxRecDepth 20000 in
theorem ggX6_dark_X6_in : GoodIn wsX6_dark wsX6_in := goodIn_r _ [14] (by decide +kernel) (by decide +kernel)
set_option maxRecDepth 20000 in
theorem gX6_dark_X6_in : GoodIn wsX6_dark (va_wsS RX6 62 yX6_in wsX6_in) := goodIn_app (goodIn_of _ (by decide +kernel)) ggX6_dark_X6_in
set_option maxRecDepth 20000 in
theorem ggX6_dark_X6_bad : GoodIn wsX6_dark wsX6_bad := goodIn_r _ [18, 19, 67, 68, 69, 70, 71, 72, 73, 74, 75, 76, 77, 78, 79, 80, 81, 82, 83, 84, 85, 86, 87, 88] (by decide +kernel) (by decide +kernel)
set_option maxRecDepth 20000 in
theorem gX6_dark_X6_bad : GoodIn wsX6_dark (wsV RX6 68 RX6 yX6_bad wsX6_bad) := goodIn_app (goodIn_of _ (by decide +kernel)) ggX6_dark_X6_bad
set_option maxRecDepth 20000 in
theorem ggX6_dark_X6_runNow : GoodIn wsX6_dark wsX6_runNow := goodIn_r _ [23, 24, 25, 26, 5, 27, 28, 29, 30, 31, 32, 33, 34, 35, 36, 37, 38, 39, 40, 41, 42, 2, 43, 44, 45, 46, 47, 48, 49, 50, 51, 52, 53, 54, 55, 56, 57, 58, 59, 60, 61, 62, 63, 64, 65, 66, 67, 68, 69, 70, 71, 72, 73, 74, 75, 76, 77, 78, 79, 80, 81, 82, 83, 84, 85, 86, 87, 88] (by decide +kernel) (by decide +kernel)
set_option maxRecDepth 20000 in
theorem gX6_dark_X6_runNow : GoodIn wsX6_dark (wsV RX6 135 RX6 yX6_runNow wsX6_runNow) := goodIn_app (goodIn_of _ (by decide +kernel)) ggX6_dark_X6_runNow
set_option maxRecDepth 20000 in
theorem ggX6_dark_X6_locks : GoodIn wsX6_dark wsX6_locks := goodIn_r _ [46, 28, 67, 68, 69, 70, 71, 72, 73, 74, 75, 76, 77, 78, 79, 80, 81, 82, 83, 84, 85, 86, 87, 88] (by decide +kernel) (by decide +kernel)
set_option maxRecDepth 20000 in
theorem gX6_dark_X6_locks : GoodIn wsX6_dark (wsV RX6 58 RX6 yX6_locks wsX6_locks) := goodIn_app (goodIn_of _ (by decide +kernel)) ggX6_dark_X6_locks
theorem dX6_dark_0 : decode cX6_dark 0 = .ok (.iload_n 1, 1) := by decide +kernel
theorem dX6_dark_1 : decode cX6_dark 1 = .ok (.iload_n 2, 1) := by decide +kernel
theorem dX6_dark_2 : decode cX6_dark 2 = .ok (.iload_n 3, 1) := by decide +kernel
theorem dX6_dark_3 : decode cX6_dark 3 = .ok (.invokestatic 131, 3) := by decide +kernel
theorem dX6_dark_6 : decode cX6_dark 6 = .ok (.ifCond .eq 16, 3) := by decide +kernel
theorem dX6_dark_9 : decode cX6_dark 9 = .ok (.iload 4, 2) := by decide +kernel
theorem dX6_dark_11 : decode cX6_dark 11 = .ok (.i2l, 1) := by decide +kernel
theorem dX6_dark_12 : decode cX6_dark 12 = .ok (.lconst 0, 1) := by decide +kernel
theorem dX6_dark_13 : decode cX6_dark 13 = .ok (.ldc2_w 159, 3) := by decide +kernel
theorem dX6_dark_16 : decode cX6_dark 16 = .ok (.invokestatic 62, 3) := by decide +kernel
theorem dX6_dark_19 : decode cX6_dark 19 = .ok (.ifCond .ne 10, 3) := by decide +kernel
theorem dX6_dark_22 : decode cX6_dark 22 = .ok (.aload_n 0, 1) := by decide +kernel
theorem dX6_dark_23 : decode cX6_dark 23 = .ok (.bipush (-2), 2) := by decide +kernel
theorem dX6_dark_25 : decode cX6_dark 25 = .ok (.invokevirtual 68, 3) := by decide +kernel
theorem dX6_dark_28 : decode cX6_dark 28 = .ok (.ireturn, 1) := by decide +kernel
theorem dX6_dark_29 : decode cX6_dark 29 = .ok (.aload_n 0, 1) := by decide +kernel
theorem dX6_dark_30 : decode cX6_dark 30 = .ok (.iload_n 1, 1) := by decide +kernel
theorem dX6_dark_31 : decode cX6_dark 31 = .ok (.iload_n 2, 1) := by decide +kernel
theorem dX6_dark_32 : decode cX6_dark 32 = .ok (.iload_n 3, 1) := by decide +kernel
theorem dX6_dark_33 : decode cX6_dark 33 = .ok (.iconst 0, 1) := by decide +kernel
theorem dX6_dark_34 : decode cX6_dark 34 = .ok (.invokevirtual 135, 3) := by decide +kernel
theorem dX6_dark_37 : decode cX6_dark 37 = .ok (.istore 5, 2) := by decide +kernel
theorem dX6_dark_39 : decode cX6_dark 39 = .ok (.iconst 0, 1) := by decide +kernel
theorem dX6_dark_40 : decode cX6_dark 40 = .ok (.istore 6, 2) := by decide +kernel
theorem dX6_dark_42 : decode cX6_dark 42 = .ok (.iconst 0, 1) := by decide +kernel
theorem dX6_dark_43 : decode cX6_dark 43 = .ok (.istore 7, 2) := by decide +kernel
theorem dX6_dark_45 : decode cX6_dark 45 = .ok (.iload 7, 2) := by decide +kernel
theorem dX6_dark_47 : decode cX6_dark 47 = .ok (.aload_n 0, 1) := by decide +kernel
theorem dX6_dark_48 : decode cX6_dark 48 = .ok (.invokevirtual 58, 3) := by decide +kernel
theorem dX6_dark_51 : decode cX6_dark 51 = .ok (.if_icmp .ge 31, 3) := by decide +kernel
theorem dX6_dark_54 : decode cX6_dark 54 = .ok (.iload 6, 2) := by decide +kernel
theorem dX6_dark_56 : decode cX6_dark 56 = .ok (.aload_n 0, 1) := by decide +kernel
theorem dX6_dark_57 : decode cX6_dark 57 = .ok (.getfield 36, 3) := by decide +kernel
theorem dX6_dark_60 : decode cX6_dark 60 = .ok (.iload 7, 2) := by decide +kernel
theorem dX6_dark_62 : decode cX6_dark 62 = .ok (.iaload, 1) := by decide +kernel
theorem dX6_dark_63 : decode cX6_dark 63 = .ok (.iload 4, 2) := by decide +kernel
theorem dX6_dark_65 : decode cX6_dark 65 = .ok (.if_icmp .gt 7, 3) := by decide +kernel
theorem dX6_dark_68 : decode cX6_dark 68 = .ok (.iconst 1, 1) := by decide +kernel
theorem dX6_dark_69 : decode cX6_dark 69 = .ok (.goto 4, 3) := by decide +kernel
theorem dX6_dark_72 : decode cX6_dark 72 = .ok (.iconst 0, 1) := by decide +kernel
theorem dX6_dark_73 : decode cX6_dark 73 = .ok (.iadd, 1) := by decide +kernel
theorem dX6_dark_74 : decode cX6_dark 74 = .ok (.istore 6, 2) := by decide +kernel
theorem dX6_dark_76 : decode cX6_dark 76 = .ok (.iinc 7 1, 3) := by decide +kernel
theorem dX6_dark_79 : decode cX6_dark 79 = .ok (.goto (-34), 3) := by decide +kernel
theorem dX6_dark_82 : decode cX6_dark 82 = .ok (.iload 6, 2) := by decide +kernel
theorem dX6_dark_84 : decode cX6_dark 84 = .ok (.ireturn, 1) := by decide +kernel
set_option maxRecDepth 20000 in
theorem ggX6_waits_X6_isRun : GoodIn wsX6_waits wsX6_isRun := goodIn_r _ [5, 6, 7, 8, 9, 4, 10, 11, 12, 13] (by decide +kernel) (by decide +kernel)
set_option maxRecDepth 20000 in
theorem gX6_waits_X6_isRun : GoodIn wsX6_waits (va_wsS RX6 131 yX6_isRun wsX6_isRun) := goodIn_app (goodIn_of _ (by decide +kernel)) ggX6_waits_X6_isRun
set_option maxRecDepth 20000 in
theorem ggX6_waits_X6_isLock : GoodIn wsX6_waits wsX6_isLock := goodIn_r _ [17, 18, 19, 20, 4, 21, 22, 11, 12, 13, 75, 76, 77, 78, 79, 80, 81, 82, 83, 84, 85, 86, 87, 88, 89, 90, 91, 92, 93, 94, 95, 96] (by decide +kernel) (by decide +kernel)
set_option maxRecDepth 20000 in
theorem gX6_waits_X6_isLock : GoodIn wsX6_waits (wsV RX6 87 RX6 yX6_isLock wsX6_isLock) := goodIn_app (goodIn_of _ (by decide +kernel)) ggX6_waits_X6_isLock
set_option maxRecDepth 20000 in
theorem ggX6_waits_X6_in : GoodIn wsX6_waits wsX6_in := goodIn_r _ [13] (by decide +kernel) (by decide +kernel)
set_option maxRecDepth 20000 in
theorem gX6_waits_X6_in : GoodIn wsX6_waits (va_wsS RX6 62 yX6_in wsX6_in) := goodIn_app (goodIn_of _ (by decide +kernel)) ggX6_waits_X6_in
set_option maxRecDepth 20000 in
theorem ggX6_waits_X6_bad : GoodIn wsX6_waits wsX6_bad := goodIn_r _ [26, 27, 75, 76, 77, 78, 79, 80, 81, 82, 83, 84, 85, 86, 87, 88, 89, 90, 91, 92, 93, 94, 95, 96] (by decide +kernel) (by decide +kernel)
set_option maxRecDepth 20000 in
theorem gX6_waits_X6_bad : GoodIn wsX6_waits (wsV RX6 68 RX6 yX6_bad wsX6_bad) := goodIn_app (goodIn_of _ (by decide +kernel)) ggX6_waits_X6_bad
set_option maxRecDepth 20000 in
theorem ggX6_waits_X6_locks : GoodIn wsX6_waits wsX6_locks := goodIn_r _ [21, 22, 75, 76, 77, 78, 79, 80, 81, 82, 83, 84, 85, 86, 87, 88, 89, 90, 91, 92, 93, 94, 95, 96] (by decide +kernel) (by decide +kernel)
set_option maxRecDepth 20000 in
theorem gX6_waits_X6_locks : GoodIn wsX6_waits (wsV RX6 58 RX6 yX6_locks wsX6_locks) := goodIn_app (goodIn_of _ (by decide +kernel)) ggX6_waits_X6_locks
set_option maxRecDepth 20000 in
theorem ggX6_waits_X6_lockAt : GoodIn wsX6_waits wsX6_lockAt := goodIn_r _ [31, 18, 19, 20, 4, 21, 22, 75, 76, 77, 78, 79, 80, 81, 82, 83, 84, 85, 86, 87, 88, 89, 90, 91, 92, 93, 94, 95, 96] (by decide +kernel) (by decide +kernel)
set_option maxRecDepth 20000 in
theorem gX6_waits_X6_lockAt : GoodIn wsX6_waits (wsV RX6 110 RX6 yX6_lockAt wsX6_lockAt) := goodIn_app (goodIn_of _ (by decide +kernel)) ggX6_waits_X6_lockAt
set_option maxRecDepth 20000 in
theorem ggX6_waits_X6_runWith : GoodIn wsX6_waits wsX6_runWith := goodIn_r _ [35, 36, 37, 38, 39, 4, 40, 22, 41, 42, 43, 44, 45, 18, 19, 20, 21, 46, 47, 48, 49, 50, 51, 52, 53, 54, 28, 29, 30, 31, 55, 56, 57, 58, 59, 60, 61, 62, 63, 64, 65, 66, 67, 68, 69, 70, 75, 76, 77, 78, 79, 80, 81, 82, 83, 84, 85, 86, 87, 88, 89, 90, 91, 92, 93, 94, 95, 96] (by decide +kernel) (by decide +kernel)
set_option maxRecDepth 20000 in
theorem gX6_waits_X6_runWith : GoodIn wsX6_waits (wsV RX6 153 RX6 yX6_runWith wsX6_runWith) := goodIn_app (goodIn_of _ (by decide +kernel)) ggX6_waits_X6_runWith
set_option maxRecDepth 20000 in
theorem ggX6_waits_X6_runNow : GoodIn wsX6_waits wsX6_runNow := goodIn_r _ [74, 37, 38, 39, 4, 40, 22, 41, 36, 42, 43, 44, 45, 46, 47, 48, 49, 50, 51, 52, 53, 54, 18, 19, 20, 21, 28, 29, 30, 31, 55, 56, 57, 58, 59, 60, 61, 62, 63, 64, 65, 66, 67, 68, 69, 70, 75, 76, 77, 78, 79, 80, 81, 82, 83, 84, 85, 86, 87, 88, 89, 90, 91, 92, 93, 94, 95, 96] (by decide +kernel) (by decide +kernel)
set_option maxRecDepth 20000 in
theorem gX6_waits_X6_runNow : GoodIn wsX6_waits (wsV RX6 135 RX6 yX6_runNow wsX6_runNow) := goodIn_app (goodIn_of _ (by decide +kernel)) ggX6_waits_X6_runNow
theorem dX6_waits_0 : decode cX6_waits 0 = .ok (.iload_n 1, 1) := by decide +kernel
theorem dX6_waits_1 : decode cX6_waits 1 = .ok (.iload_n 2, 1) := by decide +kernel
theorem dX6_waits_2 : decode cX6_waits 2 = .ok (.iload_n 3, 1) := by decide +kernel
theorem dX6_waits_3 : decode cX6_waits 3 = .ok (.invokestatic 131, 3) := by decide +kernel
theorem dX6_waits_6 : decode cX6_waits 6 = .ok (.ifCond .eq 25, 3) := by decide +kernel
theorem dX6_waits_9 : decode cX6_waits 9 = .ok (.aload_n 0, 1) := by decide +kernel
theorem dX6_waits_10 : decode cX6_waits 10 = .ok (.iload 4, 2) := by decide +kernel
theorem dX6_waits_12 : decode cX6_waits 12 = .ok (.invokevirtual 87, 3) := by decide +kernel
theorem dX6_waits_15 : decode cX6_waits 15 = .ok (.ifCond .eq 16, 3) := by decide +kernel
theorem dX6_waits_18 : decode cX6_waits 18 = .ok (.iload 5, 2) := by decide +kernel
theorem dX6_waits_20 : decode cX6_waits 20 = .ok (.i2l, 1) := by decide +kernel
theorem dX6_waits_21 : decode cX6_waits 21 = .ok (.lconst 0, 1) := by decide +kernel
theorem dX6_waits_22 : decode cX6_waits 22 = .ok (.ldc2_w 161, 3) := by decide +kernel
theorem dX6_waits_25 : decode cX6_waits 25 = .ok (.invokestatic 62, 3) := by decide +kernel
theorem dX6_waits_28 : decode cX6_waits 28 = .ok (.ifCond .ne 10, 3) := by decide +kernel
theorem dX6_waits_31 : decode cX6_waits 31 = .ok (.aload_n 0, 1) := by decide +kernel
theorem dX6_waits_32 : decode cX6_waits 32 = .ok (.bipush (-2), 2) := by decide +kernel
theorem dX6_waits_34 : decode cX6_waits 34 = .ok (.invokevirtual 68, 3) := by decide +kernel
theorem dX6_waits_37 : decode cX6_waits 37 = .ok (.ireturn, 1) := by decide +kernel
theorem dX6_waits_38 : decode cX6_waits 38 = .ok (.iconst 0, 1) := by decide +kernel
theorem dX6_waits_39 : decode cX6_waits 39 = .ok (.istore 6, 2) := by decide +kernel
theorem dX6_waits_41 : decode cX6_waits 41 = .ok (.iload 4, 2) := by decide +kernel
theorem dX6_waits_43 : decode cX6_waits 43 = .ok (.istore 7, 2) := by decide +kernel
theorem dX6_waits_45 : decode cX6_waits 45 = .ok (.iload 7, 2) := by decide +kernel
theorem dX6_waits_47 : decode cX6_waits 47 = .ok (.aload_n 0, 1) := by decide +kernel
theorem dX6_waits_48 : decode cX6_waits 48 = .ok (.invokevirtual 58, 3) := by decide +kernel
theorem dX6_waits_51 : decode cX6_waits 51 = .ok (.if_icmp .ge 23, 3) := by decide +kernel
theorem dX6_waits_54 : decode cX6_waits 54 = .ok (.iload 6, 2) := by decide +kernel
theorem dX6_waits_56 : decode cX6_waits 56 = .ok (.iconst 1, 1) := by decide +kernel
theorem dX6_waits_57 : decode cX6_waits 57 = .ok (.aload_n 0, 1) := by decide +kernel
theorem dX6_waits_58 : decode cX6_waits 58 = .ok (.iload_n 1, 1) := by decide +kernel
theorem dX6_waits_59 : decode cX6_waits 59 = .ok (.iload 7, 2) := by decide +kernel
theorem dX6_waits_61 : decode cX6_waits 61 = .ok (.invokevirtual 110, 3) := by decide +kernel
theorem dX6_waits_64 : decode cX6_waits 64 = .ok (.ishl, 1) := by decide +kernel
theorem dX6_waits_65 : decode cX6_waits 65 = .ok (.ior, 1) := by decide +kernel
theorem dX6_waits_66 : decode cX6_waits 66 = .ok (.istore 6, 2) := by decide +kernel
theorem dX6_waits_68 : decode cX6_waits 68 = .ok (.iinc 7 1, 3) := by decide +kernel
theorem dX6_waits_71 : decode cX6_waits 71 = .ok (.goto (-26), 3) := by decide +kernel
theorem dX6_waits_74 : decode cX6_waits 74 = .ok (.iload 5, 2) := by decide +kernel
theorem dX6_waits_76 : decode cX6_waits 76 = .ok (.aload_n 0, 1) := by decide +kernel
theorem dX6_waits_77 : decode cX6_waits 77 = .ok (.iload 6, 2) := by decide +kernel
theorem dX6_waits_79 : decode cX6_waits 79 = .ok (.iload_n 1, 1) := by decide +kernel
theorem dX6_waits_80 : decode cX6_waits 80 = .ok (.iload_n 2, 1) := by decide +kernel
theorem dX6_waits_81 : decode cX6_waits 81 = .ok (.iload_n 3, 1) := by decide +kernel
theorem dX6_waits_82 : decode cX6_waits 82 = .ok (.invokevirtual 153, 3) := by decide +kernel
theorem dX6_waits_85 : decode cX6_waits 85 = .ok (.iadd, 1) := by decide +kernel
theorem dX6_waits_86 : decode cX6_waits 86 = .ok (.istore 7, 2) := by decide +kernel
theorem dX6_waits_88 : decode cX6_waits 88 = .ok (.aload_n 0, 1) := by decide +kernel
theorem dX6_waits_89 : decode cX6_waits 89 = .ok (.iload_n 1, 1) := by decide +kernel
theorem dX6_waits_90 : decode cX6_waits 90 = .ok (.iload_n 2, 1) := by decide +kernel
theorem dX6_waits_91 : decode cX6_waits 91 = .ok (.iload_n 3, 1) := by decide +kernel
theorem dX6_waits_92 : decode cX6_waits 92 = .ok (.iconst 0, 1) := by decide +kernel
theorem dX6_waits_93 : decode cX6_waits 93 = .ok (.invokevirtual 135, 3) := by decide +kernel
theorem dX6_waits_96 : decode cX6_waits 96 = .ok (.istore 8, 2) := by decide +kernel
theorem dX6_waits_98 : decode cX6_waits 98 = .ok (.iload 7, 2) := by decide +kernel
theorem dX6_waits_100 : decode cX6_waits 100 = .ok (.iload 8, 2) := by decide +kernel
theorem dX6_waits_102 : decode cX6_waits 102 = .ok (.if_icmp .ge 7, 3) := by decide +kernel
theorem dX6_waits_105 : decode cX6_waits 105 = .ok (.iconst 1, 1) := by decide +kernel
theorem dX6_waits_106 : decode cX6_waits 106 = .ok (.goto 15, 3) := by decide +kernel
theorem dX6_waits_109 : decode cX6_waits 109 = .ok (.iload 7, 2) := by decide +kernel
theorem dX6_waits_111 : decode cX6_waits 111 = .ok (.iload 8, 2) := by decide +kernel
theorem dX6_waits_113 : decode cX6_waits 113 = .ok (.if_icmp .le 7, 3) := by decide +kernel
theorem dX6_waits_116 : decode cX6_waits 116 = .ok (.iconst (-1), 1) := by decide +kernel
theorem dX6_waits_117 : decode cX6_waits 117 = .ok (.goto 4, 3) := by decide +kernel
theorem dX6_waits_120 : decode cX6_waits 120 = .ok (.iconst 0, 1) := by decide +kernel
theorem dX6_waits_121 : decode cX6_waits 121 = .ok (.ireturn, 1) := by decide +kernel
set_option maxRecDepth 20000 in
theorem ggX6_share_X6_isRun : GoodIn wsX6_share wsX6_isRun := goodIn_r _ [6, 7, 8, 9, 10, 5, 11, 12, 13, 14] (by decide +kernel) (by decide +kernel)
set_option maxRecDepth 20000 in
theorem gX6_share_X6_isRun : GoodIn wsX6_share (va_wsS RX6 131 yX6_isRun wsX6_isRun) := goodIn_app (goodIn_of _ (by decide +kernel)) ggX6_share_X6_isRun
set_option maxRecDepth 20000 in
theorem ggX6_share_X6_in : GoodIn wsX6_share wsX6_in := goodIn_r _ [14] (by decide +kernel) (by decide +kernel)
set_option maxRecDepth 20000 in
theorem gX6_share_X6_in : GoodIn wsX6_share (va_wsS RX6 62 yX6_in wsX6_in) := goodIn_app (goodIn_of _ (by decide +kernel)) ggX6_share_X6_in
set_option maxRecDepth 20000 in
theorem ggX6_share_X6_bad : GoodIn wsX6_share wsX6_bad := goodIn_r _ [18, 19, 67, 68, 69, 70, 71, 72, 73, 74, 75, 76, 77, 78, 79, 80, 81, 82, 83, 84, 85, 86, 87, 88] (by decide +kernel) (by decide +kernel)
set_option maxRecDepth 20000 in
theorem gX6_share_X6_bad : GoodIn wsX6_share (wsV RX6 68 RX6 yX6_bad wsX6_bad) := goodIn_app (goodIn_of _ (by decide +kernel)) ggX6_share_X6_bad
set_option maxRecDepth 20000 in
theorem ggX6_share_X6_layHand : GoodIn wsX6_share wsX6_layHand := goodIn_r _ [23, 24, 25, 2, 26, 27, 28, 5, 29, 67, 68, 69, 70, 71, 72, 73, 74, 75, 76, 77, 78, 79, 80, 81, 82, 83, 84, 85, 86, 87, 88] (by decide +kernel) (by decide +kernel)
set_option maxRecDepth 20000 in
theorem gX6_share_X6_layHand : GoodIn wsX6_share (wsV RX6 124 RX6 yX6_layHand wsX6_layHand) := goodIn_app (goodIn_of _ (by decide +kernel)) ggX6_share_X6_layHand
set_option maxRecDepth 20000 in
theorem ggX6_share_X6_goRun : GoodIn wsX6_share wsX6_goRun := goodIn_r _ [33, 2, 34, 35, 36, 37, 25, 38, 39, 40, 41, 5, 42, 24, 43, 44, 45, 46, 26, 27, 28, 29, 47, 48, 49, 50, 51, 52, 53, 54, 55, 56, 57, 58, 59, 60, 61, 62, 67, 68, 69, 70, 71, 72, 73, 74, 75, 76, 77, 78, 79, 80, 81, 82, 83, 84, 85, 86, 87, 88] (by decide +kernel) (by decide +kernel)
set_option maxRecDepth 20000 in
theorem gX6_share_X6_goRun : GoodIn wsX6_share (wsV RX6 127 RX6 yX6_goRun wsX6_goRun) := goodIn_app (goodIn_of _ (by decide +kernel)) ggX6_share_X6_goRun
set_option maxRecDepth 20000 in
theorem ggX6_share_X6_runNow : GoodIn wsX6_share wsX6_runNow := goodIn_r _ [66, 20, 21, 22, 5, 23, 24, 25, 2, 26, 27, 28, 29, 30, 31, 32, 33, 34, 35, 36, 37, 38, 39, 40, 41, 42, 43, 44, 45, 46, 47, 48, 49, 50, 51, 52, 53, 54, 55, 56, 57, 58, 59, 60, 61, 62, 67, 68, 69, 70, 71, 72, 73, 74, 75, 76, 77, 78, 79, 80, 81, 82, 83, 84, 85, 86, 87, 88] (by decide +kernel) (by decide +kernel)
set_option maxRecDepth 20000 in
theorem gX6_share_X6_runNow : GoodIn wsX6_share (wsV RX6 135 RX6 yX6_runNow wsX6_runNow) := goodIn_app (goodIn_of _ (by decide +kernel)) ggX6_share_X6_runNow
theorem dX6_share_0 : decode cX6_share 0 = .ok (.iload_n 1, 1) := by decide +kernel
theorem dX6_share_1 : decode cX6_share 1 = .ok (.iload_n 2, 1) := by decide +kernel
theorem dX6_share_2 : decode cX6_share 2 = .ok (.iload_n 3, 1) := by decide +kernel
theorem dX6_share_3 : decode cX6_share 3 = .ok (.invokestatic 131, 3) := by decide +kernel
theorem dX6_share_6 : decode cX6_share 6 = .ok (.ifCond .eq 16, 3) := by decide +kernel
theorem dX6_share_9 : decode cX6_share 9 = .ok (.iload 4, 2) := by decide +kernel
theorem dX6_share_11 : decode cX6_share 11 = .ok (.i2l, 1) := by decide +kernel
theorem dX6_share_12 : decode cX6_share 12 = .ok (.lconst 0, 1) := by decide +kernel
theorem dX6_share_13 : decode cX6_share 13 = .ok (.ldc2_w 161, 3) := by decide +kernel
theorem dX6_share_16 : decode cX6_share 16 = .ok (.invokestatic 62, 3) := by decide +kernel
theorem dX6_share_19 : decode cX6_share 19 = .ok (.ifCond .ne 11, 3) := by decide +kernel
theorem dX6_share_22 : decode cX6_share 22 = .ok (.aload_n 0, 1) := by decide +kernel
theorem dX6_share_23 : decode cX6_share 23 = .ok (.sipush (-1000), 3) := by decide +kernel
theorem dX6_share_26 : decode cX6_share 26 = .ok (.invokevirtual 68, 3) := by decide +kernel
theorem dX6_share_29 : decode cX6_share 29 = .ok (.ireturn, 1) := by decide +kernel
theorem dX6_share_30 : decode cX6_share 30 = .ok (.aload_n 0, 1) := by decide +kernel
theorem dX6_share_31 : decode cX6_share 31 = .ok (.invokevirtual 124, 3) := by decide +kernel
theorem dX6_share_34 : decode cX6_share 34 = .ok (.iload 4, 2) := by decide +kernel
theorem dX6_share_36 : decode cX6_share 36 = .ok (.aload_n 0, 1) := by decide +kernel
theorem dX6_share_37 : decode cX6_share 37 = .ok (.iload_n 1, 1) := by decide +kernel
theorem dX6_share_38 : decode cX6_share 38 = .ok (.iload_n 2, 1) := by decide +kernel
theorem dX6_share_39 : decode cX6_share 39 = .ok (.iload_n 3, 1) := by decide +kernel
theorem dX6_share_40 : decode cX6_share 40 = .ok (.iconst 3, 1) := by decide +kernel
theorem dX6_share_41 : decode cX6_share 41 = .ok (.invokevirtual 127, 3) := by decide +kernel
theorem dX6_share_44 : decode cX6_share 44 = .ok (.iadd, 1) := by decide +kernel
theorem dX6_share_45 : decode cX6_share 45 = .ok (.istore 5, 2) := by decide +kernel
theorem dX6_share_47 : decode cX6_share 47 = .ok (.aload_n 0, 1) := by decide +kernel
theorem dX6_share_48 : decode cX6_share 48 = .ok (.iload_n 1, 1) := by decide +kernel
theorem dX6_share_49 : decode cX6_share 49 = .ok (.iload_n 2, 1) := by decide +kernel
theorem dX6_share_50 : decode cX6_share 50 = .ok (.iload_n 3, 1) := by decide +kernel
theorem dX6_share_51 : decode cX6_share 51 = .ok (.iconst 0, 1) := by decide +kernel
theorem dX6_share_52 : decode cX6_share 52 = .ok (.invokevirtual 135, 3) := by decide +kernel
theorem dX6_share_55 : decode cX6_share 55 = .ok (.istore 6, 2) := by decide +kernel
theorem dX6_share_57 : decode cX6_share 57 = .ok (.iconst 0, 1) := by decide +kernel
theorem dX6_share_58 : decode cX6_share 58 = .ok (.istore 7, 2) := by decide +kernel
theorem dX6_share_60 : decode cX6_share 60 = .ok (.iload 7, 2) := by decide +kernel
theorem dX6_share_62 : decode cX6_share 62 = .ok (.bipush 8, 2) := by decide +kernel
theorem dX6_share_64 : decode cX6_share 64 = .ok (.if_icmp .ge 19, 3) := by decide +kernel
theorem dX6_share_67 : decode cX6_share 67 = .ok (.aload_n 0, 1) := by decide +kernel
theorem dX6_share_68 : decode cX6_share 68 = .ok (.getfield 27, 3) := by decide +kernel
theorem dX6_share_71 : decode cX6_share 71 = .ok (.iload 7, 2) := by decide +kernel
theorem dX6_share_73 : decode cX6_share 73 = .ok (.iconst 1, 1) := by decide +kernel
theorem dX6_share_74 : decode cX6_share 74 = .ok (.iload_n 1, 1) := by decide +kernel
theorem dX6_share_75 : decode cX6_share 75 = .ok (.isub, 1) := by decide +kernel
theorem dX6_share_76 : decode cX6_share 76 = .ok (.iastore, 1) := by decide +kernel
theorem dX6_share_77 : decode cX6_share 77 = .ok (.iinc 7 1, 3) := by decide +kernel
theorem dX6_share_80 : decode cX6_share 80 = .ok (.goto (-20), 3) := by decide +kernel
theorem dX6_share_83 : decode cX6_share 83 = .ok (.aload_n 0, 1) := by decide +kernel
theorem dX6_share_84 : decode cX6_share 84 = .ok (.iload_n 1, 1) := by decide +kernel
theorem dX6_share_85 : decode cX6_share 85 = .ok (.iload_n 2, 1) := by decide +kernel
theorem dX6_share_86 : decode cX6_share 86 = .ok (.iload_n 3, 1) := by decide +kernel
theorem dX6_share_87 : decode cX6_share 87 = .ok (.iconst 0, 1) := by decide +kernel
theorem dX6_share_88 : decode cX6_share 88 = .ok (.invokevirtual 127, 3) := by decide +kernel
theorem dX6_share_91 : decode cX6_share 91 = .ok (.istore 7, 2) := by decide +kernel
theorem dX6_share_93 : decode cX6_share 93 = .ok (.iload 6, 2) := by decide +kernel
theorem dX6_share_95 : decode cX6_share 95 = .ok (.iload 4, 2) := by decide +kernel
theorem dX6_share_97 : decode cX6_share 97 = .ok (.if_icmp .le 8, 3) := by decide +kernel
theorem dX6_share_100 : decode cX6_share 100 = .ok (.iload 6, 2) := by decide +kernel
theorem dX6_share_102 : decode cX6_share 102 = .ok (.goto 5, 3) := by decide +kernel
theorem dX6_share_105 : decode cX6_share 105 = .ok (.iload 4, 2) := by decide +kernel
theorem dX6_share_107 : decode cX6_share 107 = .ok (.iload 7, 2) := by decide +kernel
theorem dX6_share_109 : decode cX6_share 109 = .ok (.iadd, 1) := by decide +kernel
theorem dX6_share_110 : decode cX6_share 110 = .ok (.iload 5, 2) := by decide +kernel
theorem dX6_share_112 : decode cX6_share 112 = .ok (.isub, 1) := by decide +kernel
theorem dX6_share_113 : decode cX6_share 113 = .ok (.ireturn, 1) := by decide +kernel
set_option maxRecDepth 20000 in
theorem ggX6_key_X6_isDown : GoodIn wsX6_key wsX6_isDown := goodIn_r _ [4, 5, 6, 3, 7] (by decide +kernel) (by decide +kernel)
set_option maxRecDepth 20000 in
theorem gX6_key_X6_isDown : GoodIn wsX6_key (va_wsS RX6 119 yX6_isDown wsX6_isDown) := goodIn_app (goodIn_of _ (by decide +kernel)) ggX6_key_X6_isDown
set_option maxRecDepth 20000 in
theorem ggX6_key_X6_isLock : GoodIn wsX6_key wsX6_isLock := goodIn_r _ [11, 12, 13, 14, 3, 15, 16, 5, 6, 7, 33, 34, 35, 36, 37, 38, 39, 40, 41, 42, 43, 44, 45, 46, 47, 48, 49, 50, 51, 52, 53, 54] (by decide +kernel) (by decide +kernel)
set_option maxRecDepth 20000 in
theorem gX6_key_X6_isLock : GoodIn wsX6_key (wsV RX6 87 RX6 yX6_isLock wsX6_isLock) := goodIn_app (goodIn_of _ (by decide +kernel)) ggX6_key_X6_isLock
set_option maxRecDepth 20000 in
theorem ggX6_key_X6_bad : GoodIn wsX6_key wsX6_bad := goodIn_r _ [20, 21, 33, 34, 35, 36, 37, 38, 39, 40, 41, 42, 43, 44, 45, 46, 47, 48, 49, 50, 51, 52, 53, 54] (by decide +kernel) (by decide +kernel)
set_option maxRecDepth 20000 in
theorem gX6_key_X6_bad : GoodIn wsX6_key (wsV RX6 68 RX6 yX6_bad wsX6_bad) := goodIn_app (goodIn_of _ (by decide +kernel)) ggX6_key_X6_bad
set_option maxRecDepth 20000 in
theorem ggX6_key_X6_roadFrom : GoodIn wsX6_key wsX6_roadFrom := goodIn_r _ [25, 12, 13, 14, 3, 15, 16, 26, 27, 28, 29, 33, 34, 35, 36, 37, 38, 39, 40, 41, 42, 43, 44, 45, 46, 47, 48, 49, 50, 51, 52, 53, 54] (by decide +kernel) (by decide +kernel)
set_option maxRecDepth 20000 in
theorem gX6_key_X6_roadFrom : GoodIn wsX6_key (wsV RX6 113 RX6 yX6_roadFrom wsX6_roadFrom) := goodIn_app (goodIn_of _ (by decide +kernel)) ggX6_key_X6_roadFrom
set_option maxRecDepth 20000 in
theorem ggX6_key_X6_walk : GoodIn wsX6_key wsX6_walk := goodIn_r _ [32] (by decide +kernel) (by decide +kernel)
set_option maxRecDepth 20000 in
theorem gX6_key_X6_walk : GoodIn wsX6_key (va_wsS RX6 116 yX6_walk wsX6_walk) := goodIn_app (goodIn_of _ (by decide +kernel)) ggX6_key_X6_walk
theorem dX6_key_0 : decode cX6_key 0 = .ok (.iload_n 1, 1) := by decide +kernel
theorem dX6_key_1 : decode cX6_key 1 = .ok (.invokestatic 119, 3) := by decide +kernel
theorem dX6_key_4 : decode cX6_key 4 = .ok (.ifCond .eq 24, 3) := by decide +kernel
theorem dX6_key_7 : decode cX6_key 7 = .ok (.aload_n 0, 1) := by decide +kernel
theorem dX6_key_8 : decode cX6_key 8 = .ok (.iload_n 2, 1) := by decide +kernel
theorem dX6_key_9 : decode cX6_key 9 = .ok (.invokevirtual 87, 3) := by decide +kernel
theorem dX6_key_12 : decode cX6_key 12 = .ok (.ifCond .eq 16, 3) := by decide +kernel
theorem dX6_key_15 : decode cX6_key 15 = .ok (.aload_n 0, 1) := by decide +kernel
theorem dX6_key_16 : decode cX6_key 16 = .ok (.iload_n 3, 1) := by decide +kernel
theorem dX6_key_17 : decode cX6_key 17 = .ok (.invokevirtual 87, 3) := by decide +kernel
theorem dX6_key_20 : decode cX6_key 20 = .ok (.ifCond .eq 8, 3) := by decide +kernel
theorem dX6_key_23 : decode cX6_key 23 = .ok (.iload_n 2, 1) := by decide +kernel
theorem dX6_key_24 : decode cX6_key 24 = .ok (.iload_n 3, 1) := by decide +kernel
theorem dX6_key_25 : decode cX6_key 25 = .ok (.if_icmp .le 10, 3) := by decide +kernel
theorem dX6_key_28 : decode cX6_key 28 = .ok (.aload_n 0, 1) := by decide +kernel
theorem dX6_key_29 : decode cX6_key 29 = .ok (.bipush (-2), 2) := by decide +kernel
theorem dX6_key_31 : decode cX6_key 31 = .ok (.invokevirtual 68, 3) := by decide +kernel
theorem dX6_key_34 : decode cX6_key 34 = .ok (.ireturn, 1) := by decide +kernel
theorem dX6_key_35 : decode cX6_key 35 = .ok (.iconst 0, 1) := by decide +kernel
theorem dX6_key_36 : decode cX6_key 36 = .ok (.istore 4, 2) := by decide +kernel
theorem dX6_key_38 : decode cX6_key 38 = .ok (.iload_n 2, 1) := by decide +kernel
theorem dX6_key_39 : decode cX6_key 39 = .ok (.istore 5, 2) := by decide +kernel
theorem dX6_key_41 : decode cX6_key 41 = .ok (.iload 5, 2) := by decide +kernel
theorem dX6_key_43 : decode cX6_key 43 = .ok (.iload_n 3, 1) := by decide +kernel
theorem dX6_key_44 : decode cX6_key 44 = .ok (.if_icmp .ge 27, 3) := by decide +kernel
theorem dX6_key_47 : decode cX6_key 47 = .ok (.iload 4, 2) := by decide +kernel
theorem dX6_key_49 : decode cX6_key 49 = .ok (.iconst 2, 1) := by decide +kernel
theorem dX6_key_50 : decode cX6_key 50 = .ok (.aload_n 0, 1) := by decide +kernel
theorem dX6_key_51 : decode cX6_key 51 = .ok (.iload_n 1, 1) := by decide +kernel
theorem dX6_key_52 : decode cX6_key 52 = .ok (.iload 5, 2) := by decide +kernel
theorem dX6_key_54 : decode cX6_key 54 = .ok (.invokevirtual 113, 3) := by decide +kernel
theorem dX6_key_57 : decode cX6_key 57 = .ok (.iconst 2, 1) := by decide +kernel
theorem dX6_key_58 : decode cX6_key 58 = .ok (.invokestatic 116, 3) := by decide +kernel
theorem dX6_key_61 : decode cX6_key 61 = .ok (.imul, 1) := by decide +kernel
theorem dX6_key_62 : decode cX6_key 62 = .ok (.iadd, 1) := by decide +kernel
theorem dX6_key_63 : decode cX6_key 63 = .ok (.istore 4, 2) := by decide +kernel
theorem dX6_key_65 : decode cX6_key 65 = .ok (.iinc 5 1, 3) := by decide +kernel
theorem dX6_key_68 : decode cX6_key 68 = .ok (.goto (-27), 3) := by decide +kernel
theorem dX6_key_71 : decode cX6_key 71 = .ok (.iload 4, 2) := by decide +kernel
theorem dX6_key_73 : decode cX6_key 73 = .ok (.ireturn, 1) := by decide +kernel
set_option maxRecDepth 20000 in
theorem ggX6_reading_X6_isLock : GoodIn wsX6_reading wsX6_isLock := goodIn_r _ [7, 8, 9, 10, 6, 11, 2, 12, 13, 14, 24, 25, 26, 27, 28, 29, 30, 31, 32, 33, 34, 35, 36, 37, 38, 39, 40, 41, 42, 43, 44, 45] (by decide +kernel) (by decide +kernel)
set_option maxRecDepth 20000 in
theorem gX6_reading_X6_isLock : GoodIn wsX6_reading (wsV RX6 87 RX6 yX6_isLock wsX6_isLock) := goodIn_app (goodIn_of _ (by decide +kernel)) ggX6_reading_X6_isLock
set_option maxRecDepth 20000 in
theorem ggX6_reading_X6_in : GoodIn wsX6_reading wsX6_in := goodIn_r _ [14] (by decide +kernel) (by decide +kernel)
set_option maxRecDepth 20000 in
theorem gX6_reading_X6_in : GoodIn wsX6_reading (va_wsS RX6 62 yX6_in wsX6_in) := goodIn_app (goodIn_of _ (by decide +kernel)) ggX6_reading_X6_in
set_option maxRecDepth 20000 in
theorem ggX6_reading_X6_bad : GoodIn wsX6_reading wsX6_bad := goodIn_r _ [18, 19, 24, 25, 26, 27, 28, 29, 30, 31, 32, 33, 34, 35, 36, 37, 38, 39, 40, 41, 42, 43, 44, 45] (by decide +kernel) (by decide +kernel)
set_option maxRecDepth 20000 in
theorem gX6_reading_X6_bad : GoodIn wsX6_reading (wsV RX6 68 RX6 yX6_bad wsX6_bad) := goodIn_app (goodIn_of _ (by decide +kernel)) ggX6_reading_X6_bad
set_option maxRecDepth 20000 in
theorem ggX6_reading_X6_full : GoodIn wsX6_reading wsX6_full := goodIn_r _ [23, 19, 24, 25, 26, 27, 28, 29, 30, 31, 32, 33, 34, 35, 36, 37, 38, 39, 40, 41, 42, 43, 44, 45] (by decide +kernel) (by decide +kernel)
set_option maxRecDepth 20000 in
theorem gX6_reading_X6_full : GoodIn wsX6_reading (wsV RX6 76 RX6 yX6_full wsX6_full) := goodIn_app (goodIn_of _ (by decide +kernel)) ggX6_reading_X6_full
theorem dX6_reading_0 : decode cX6_reading 0 = .ok (.aload_n 0, 1) := by decide +kernel
theorem dX6_reading_1 : decode cX6_reading 1 = .ok (.iload_n 1, 1) := by decide +kernel
theorem dX6_reading_2 : decode cX6_reading 2 = .ok (.invokevirtual 87, 3) := by decide +kernel
theorem dX6_reading_5 : decode cX6_reading 5 = .ok (.ifCond .eq 15, 3) := by decide +kernel
theorem dX6_reading_8 : decode cX6_reading 8 = .ok (.iload_n 2, 1) := by decide +kernel
theorem dX6_reading_9 : decode cX6_reading 9 = .ok (.i2l, 1) := by decide +kernel
theorem dX6_reading_10 : decode cX6_reading 10 = .ok (.lconst 0, 1) := by decide +kernel
theorem dX6_reading_11 : decode cX6_reading 11 = .ok (.ldc2_w 159, 3) := by decide +kernel
theorem dX6_reading_14 : decode cX6_reading 14 = .ok (.invokestatic 62, 3) := by decide +kernel
theorem dX6_reading_17 : decode cX6_reading 17 = .ok (.ifCond .ne 10, 3) := by decide +kernel
theorem dX6_reading_20 : decode cX6_reading 20 = .ok (.aload_n 0, 1) := by decide +kernel
theorem dX6_reading_21 : decode cX6_reading 21 = .ok (.bipush (-2), 2) := by decide +kernel
theorem dX6_reading_23 : decode cX6_reading 23 = .ok (.invokevirtual 68, 3) := by decide +kernel
theorem dX6_reading_26 : decode cX6_reading 26 = .ok (.ireturn, 1) := by decide +kernel
theorem dX6_reading_27 : decode cX6_reading 27 = .ok (.aload_n 0, 1) := by decide +kernel
theorem dX6_reading_28 : decode cX6_reading 28 = .ok (.getfield 7, 3) := by decide +kernel
theorem dX6_reading_31 : decode cX6_reading 31 = .ok (.iconst 4, 1) := by decide +kernel
theorem dX6_reading_32 : decode cX6_reading 32 = .ok (.iaload, 1) := by decide +kernel
theorem dX6_reading_33 : decode cX6_reading 33 = .ok (.bipush 6, 2) := by decide +kernel
theorem dX6_reading_35 : decode cX6_reading 35 = .ok (.if_icmp .ne 8, 3) := by decide +kernel
theorem dX6_reading_38 : decode cX6_reading 38 = .ok (.aload_n 0, 1) := by decide +kernel
theorem dX6_reading_39 : decode cX6_reading 39 = .ok (.invokevirtual 76, 3) := by decide +kernel
theorem dX6_reading_42 : decode cX6_reading 42 = .ok (.ireturn, 1) := by decide +kernel
theorem dX6_reading_43 : decode cX6_reading 43 = .ok (.aload_n 0, 1) := by decide +kernel
theorem dX6_reading_44 : decode cX6_reading 44 = .ok (.getfield 7, 3) := by decide +kernel
theorem dX6_reading_47 : decode cX6_reading 47 = .ok (.bipush 30, 2) := by decide +kernel
theorem dX6_reading_49 : decode cX6_reading 49 = .ok (.iconst 2, 1) := by decide +kernel
theorem dX6_reading_50 : decode cX6_reading 50 = .ok (.aload_n 0, 1) := by decide +kernel
theorem dX6_reading_51 : decode cX6_reading 51 = .ok (.getfield 7, 3) := by decide +kernel
theorem dX6_reading_54 : decode cX6_reading 54 = .ok (.iconst 4, 1) := by decide +kernel
theorem dX6_reading_55 : decode cX6_reading 55 = .ok (.iaload, 1) := by decide +kernel
theorem dX6_reading_56 : decode cX6_reading 56 = .ok (.imul, 1) := by decide +kernel
theorem dX6_reading_57 : decode cX6_reading 57 = .ok (.iadd, 1) := by decide +kernel
theorem dX6_reading_58 : decode cX6_reading 58 = .ok (.iload_n 1, 1) := by decide +kernel
theorem dX6_reading_59 : decode cX6_reading 59 = .ok (.iastore, 1) := by decide +kernel
theorem dX6_reading_60 : decode cX6_reading 60 = .ok (.aload_n 0, 1) := by decide +kernel
theorem dX6_reading_61 : decode cX6_reading 61 = .ok (.getfield 7, 3) := by decide +kernel
theorem dX6_reading_64 : decode cX6_reading 64 = .ok (.bipush 30, 2) := by decide +kernel
theorem dX6_reading_66 : decode cX6_reading 66 = .ok (.iconst 2, 1) := by decide +kernel
theorem dX6_reading_67 : decode cX6_reading 67 = .ok (.aload_n 0, 1) := by decide +kernel
theorem dX6_reading_68 : decode cX6_reading 68 = .ok (.getfield 7, 3) := by decide +kernel
theorem dX6_reading_71 : decode cX6_reading 71 = .ok (.iconst 4, 1) := by decide +kernel
theorem dX6_reading_72 : decode cX6_reading 72 = .ok (.iaload, 1) := by decide +kernel
theorem dX6_reading_73 : decode cX6_reading 73 = .ok (.imul, 1) := by decide +kernel
theorem dX6_reading_74 : decode cX6_reading 74 = .ok (.iadd, 1) := by decide +kernel
theorem dX6_reading_75 : decode cX6_reading 75 = .ok (.iconst 1, 1) := by decide +kernel
theorem dX6_reading_76 : decode cX6_reading 76 = .ok (.iadd, 1) := by decide +kernel
theorem dX6_reading_77 : decode cX6_reading 77 = .ok (.iload_n 2, 1) := by decide +kernel
theorem dX6_reading_78 : decode cX6_reading 78 = .ok (.iastore, 1) := by decide +kernel
theorem dX6_reading_79 : decode cX6_reading 79 = .ok (.aload_n 0, 1) := by decide +kernel
theorem dX6_reading_80 : decode cX6_reading 80 = .ok (.getfield 7, 3) := by decide +kernel
theorem dX6_reading_83 : decode cX6_reading 83 = .ok (.iconst 4, 1) := by decide +kernel
theorem dX6_reading_84 : decode cX6_reading 84 = .ok (.dup2, 1) := by decide +kernel
theorem dX6_reading_85 : decode cX6_reading 85 = .ok (.iaload, 1) := by decide +kernel
theorem dX6_reading_86 : decode cX6_reading 86 = .ok (.iconst 1, 1) := by decide +kernel
theorem dX6_reading_87 : decode cX6_reading 87 = .ok (.iadd, 1) := by decide +kernel
theorem dX6_reading_88 : decode cX6_reading 88 = .ok (.iastore, 1) := by decide +kernel
theorem dX6_reading_89 : decode cX6_reading 89 = .ok (.aload_n 0, 1) := by decide +kernel
theorem dX6_reading_90 : decode cX6_reading 90 = .ok (.getfield 7, 3) := by decide +kernel
theorem dX6_reading_93 : decode cX6_reading 93 = .ok (.iconst 4, 1) := by decide +kernel
theorem dX6_reading_94 : decode cX6_reading 94 = .ok (.iaload, 1) := by decide +kernel
theorem dX6_reading_95 : decode cX6_reading 95 = .ok (.iconst 1, 1) := by decide +kernel
theorem dX6_reading_96 : decode cX6_reading 96 = .ok (.isub, 1) := by decide +kernel
theorem dX6_reading_97 : decode cX6_reading 97 = .ok (.ireturn, 1) := by decide +kernel
theorem dX6_forget_0 : decode cX6_forget 0 = .ok (.aload_n 0, 1) := by decide +kernel
theorem dX6_forget_1 : decode cX6_forget 1 = .ok (.getfield 7, 3) := by decide +kernel
theorem dX6_forget_4 : decode cX6_forget 4 = .ok (.iconst 4, 1) := by decide +kernel
theorem dX6_forget_5 : decode cX6_forget 5 = .ok (.iaload, 1) := by decide +kernel
theorem dX6_forget_6 : decode cX6_forget 6 = .ok (.istore_n 1, 1) := by decide +kernel
theorem dX6_forget_7 : decode cX6_forget 7 = .ok (.aload_n 0, 1) := by decide +kernel
theorem dX6_forget_8 : decode cX6_forget 8 = .ok (.getfield 7, 3) := by decide +kernel
theorem dX6_forget_11 : decode cX6_forget 11 = .ok (.iconst 4, 1) := by decide +kernel
theorem dX6_forget_12 : decode cX6_forget 12 = .ok (.iconst 0, 1) := by decide +kernel
theorem dX6_forget_13 : decode cX6_forget 13 = .ok (.iastore, 1) := by decide +kernel
theorem dX6_forget_14 : decode cX6_forget 14 = .ok (.iload_n 1, 1) := by decide +kernel
theorem dX6_forget_15 : decode cX6_forget 15 = .ok (.ireturn, 1) := by decide +kernel
theorem dX6_areSo_0 : decode cX6_areSo 0 = .ok (.iconst 1, 1) := by decide +kernel
theorem dX6_areSo_1 : decode cX6_areSo 1 = .ok (.istore_n 1, 1) := by decide +kernel
theorem dX6_areSo_2 : decode cX6_areSo 2 = .ok (.iconst 0, 1) := by decide +kernel
theorem dX6_areSo_3 : decode cX6_areSo 3 = .ok (.istore_n 2, 1) := by decide +kernel
theorem dX6_areSo_4 : decode cX6_areSo 4 = .ok (.iload_n 2, 1) := by decide +kernel
theorem dX6_areSo_5 : decode cX6_areSo 5 = .ok (.aload_n 0, 1) := by decide +kernel
theorem dX6_areSo_6 : decode cX6_areSo 6 = .ok (.getfield 7, 3) := by decide +kernel
theorem dX6_areSo_9 : decode cX6_areSo 9 = .ok (.iconst 4, 1) := by decide +kernel
theorem dX6_areSo_10 : decode cX6_areSo 10 = .ok (.iaload, 1) := by decide +kernel
theorem dX6_areSo_11 : decode cX6_areSo 11 = .ok (.if_icmp .ge 51, 3) := by decide +kernel
theorem dX6_areSo_14 : decode cX6_areSo 14 = .ok (.iload_n 1, 1) := by decide +kernel
theorem dX6_areSo_15 : decode cX6_areSo 15 = .ok (.ifCond .eq 39, 3) := by decide +kernel
theorem dX6_areSo_18 : decode cX6_areSo 18 = .ok (.aload_n 0, 1) := by decide +kernel
theorem dX6_areSo_19 : decode cX6_areSo 19 = .ok (.getfield 33, 3) := by decide +kernel
theorem dX6_areSo_22 : decode cX6_areSo 22 = .ok (.aload_n 0, 1) := by decide +kernel
theorem dX6_areSo_23 : decode cX6_areSo 23 = .ok (.getfield 7, 3) := by decide +kernel
theorem dX6_areSo_26 : decode cX6_areSo 26 = .ok (.bipush 30, 2) := by decide +kernel
theorem dX6_areSo_28 : decode cX6_areSo 28 = .ok (.iconst 2, 1) := by decide +kernel
theorem dX6_areSo_29 : decode cX6_areSo 29 = .ok (.iload_n 2, 1) := by decide +kernel
theorem dX6_areSo_30 : decode cX6_areSo 30 = .ok (.imul, 1) := by decide +kernel
theorem dX6_areSo_31 : decode cX6_areSo 31 = .ok (.iadd, 1) := by decide +kernel
theorem dX6_areSo_32 : decode cX6_areSo 32 = .ok (.iaload, 1) := by decide +kernel
theorem dX6_areSo_33 : decode cX6_areSo 33 = .ok (.iaload, 1) := by decide +kernel
theorem dX6_areSo_34 : decode cX6_areSo 34 = .ok (.aload_n 0, 1) := by decide +kernel
theorem dX6_areSo_35 : decode cX6_areSo 35 = .ok (.getfield 7, 3) := by decide +kernel
theorem dX6_areSo_38 : decode cX6_areSo 38 = .ok (.bipush 30, 2) := by decide +kernel
theorem dX6_areSo_40 : decode cX6_areSo 40 = .ok (.iconst 2, 1) := by decide +kernel
theorem dX6_areSo_41 : decode cX6_areSo 41 = .ok (.iload_n 2, 1) := by decide +kernel
theorem dX6_areSo_42 : decode cX6_areSo 42 = .ok (.imul, 1) := by decide +kernel
theorem dX6_areSo_43 : decode cX6_areSo 43 = .ok (.iadd, 1) := by decide +kernel
theorem dX6_areSo_44 : decode cX6_areSo 44 = .ok (.iconst 1, 1) := by decide +kernel
theorem dX6_areSo_45 : decode cX6_areSo 45 = .ok (.iadd, 1) := by decide +kernel
theorem dX6_areSo_46 : decode cX6_areSo 46 = .ok (.iaload, 1) := by decide +kernel
theorem dX6_areSo_47 : decode cX6_areSo 47 = .ok (.if_icmp .ne 7, 3) := by decide +kernel
theorem dX6_areSo_50 : decode cX6_areSo 50 = .ok (.iconst 1, 1) := by decide +kernel
theorem dX6_areSo_51 : decode cX6_areSo 51 = .ok (.goto 4, 3) := by decide +kernel
theorem dX6_areSo_54 : decode cX6_areSo 54 = .ok (.iconst 0, 1) := by decide +kernel
theorem dX6_areSo_55 : decode cX6_areSo 55 = .ok (.istore_n 1, 1) := by decide +kernel
theorem dX6_areSo_56 : decode cX6_areSo 56 = .ok (.iinc 2 1, 3) := by decide +kernel
theorem dX6_areSo_59 : decode cX6_areSo 59 = .ok (.goto (-55), 3) := by decide +kernel
theorem dX6_areSo_62 : decode cX6_areSo 62 = .ok (.iload_n 1, 1) := by decide +kernel
theorem dX6_areSo_63 : decode cX6_areSo 63 = .ok (.ireturn, 1) := by decide +kernel
set_option maxRecDepth 20000 in
theorem ggX6_leads_X6_isDown : GoodIn wsX6_leads wsX6_isDown := goodIn_r _ [5, 6, 7, 4, 8] (by decide +kernel) (by decide +kernel)
set_option maxRecDepth 20000 in
theorem gX6_leads_X6_isDown : GoodIn wsX6_leads (va_wsS RX6 119 yX6_isDown wsX6_isDown) := goodIn_app (goodIn_of _ (by decide +kernel)) ggX6_leads_X6_isDown
set_option maxRecDepth 20000 in
theorem ggX6_leads_X6_in : GoodIn wsX6_leads wsX6_in := goodIn_r _ [8] (by decide +kernel) (by decide +kernel)
set_option maxRecDepth 20000 in
theorem gX6_leads_X6_in : GoodIn wsX6_leads (va_wsS RX6 62 yX6_in wsX6_in) := goodIn_app (goodIn_of _ (by decide +kernel)) ggX6_leads_X6_in
set_option maxRecDepth 20000 in
theorem ggX6_leads_X6_bad : GoodIn wsX6_leads wsX6_bad := goodIn_r _ [12, 13, 66, 67, 68, 69, 70, 71, 72, 73, 74, 75, 76, 77, 78, 79, 80, 81, 82, 83, 84, 85, 86, 87] (by decide +kernel) (by decide +kernel)
set_option maxRecDepth 20000 in
theorem gX6_leads_X6_bad : GoodIn wsX6_leads (wsV RX6 68 RX6 yX6_bad wsX6_bad) := goodIn_app (goodIn_of _ (by decide +kernel)) ggX6_leads_X6_bad
set_option maxRecDepth 20000 in
theorem ggX6_leads_X6_runNow : GoodIn wsX6_leads wsX6_runNow := goodIn_r _ [17, 18, 19, 20, 4, 21, 22, 23, 24, 25, 26, 27, 28, 29, 30, 31, 32, 33, 34, 35, 36, 37, 38, 39, 40, 41, 42, 43, 44, 45, 46, 47, 48, 49, 50, 51, 52, 53, 54, 55, 56, 57, 58, 59, 60, 61, 66, 67, 68, 69, 70, 71, 72, 73, 74, 75, 76, 77, 78, 79, 80, 81, 82, 83, 84, 85, 86, 87] (by decide +kernel) (by decide +kernel)
set_option maxRecDepth 20000 in
theorem gX6_leads_X6_runNow : GoodIn wsX6_leads (wsV RX6 135 RX6 yX6_runNow wsX6_runNow) := goodIn_app (goodIn_of _ (by decide +kernel)) ggX6_leads_X6_runNow
set_option maxRecDepth 20000 in
theorem ggX6_leads_X6_areSo : GoodIn wsX6_leads wsX6_areSo := goodIn_r _ [65, 22, 36, 66, 67, 68, 69, 70, 71, 72, 73, 74, 75, 76, 77, 78, 79, 80, 81, 82, 83, 84, 85, 86, 87] (by decide +kernel) (by decide +kernel)
set_option maxRecDepth 20000 in
theorem gX6_leads_X6_areSo : GoodIn wsX6_leads (wsV RX6 163 RX6 yX6_areSo wsX6_areSo) := goodIn_app (goodIn_of _ (by decide +kernel)) ggX6_leads_X6_areSo
theorem dX6_leads_0 : decode cX6_leads 0 = .ok (.iload_n 1, 1) := by decide +kernel
theorem dX6_leads_1 : decode cX6_leads 1 = .ok (.invokestatic 119, 3) := by decide +kernel
theorem dX6_leads_4 : decode cX6_leads 4 = .ok (.ifCond .eq 25, 3) := by decide +kernel
theorem dX6_leads_7 : decode cX6_leads 7 = .ok (.iload_n 2, 1) := by decide +kernel
theorem dX6_leads_8 : decode cX6_leads 8 = .ok (.i2l, 1) := by decide +kernel
theorem dX6_leads_9 : decode cX6_leads 9 = .ok (.lconst 1, 1) := by decide +kernel
theorem dX6_leads_10 : decode cX6_leads 10 = .ok (.ldc2_w 122, 3) := by decide +kernel
theorem dX6_leads_13 : decode cX6_leads 13 = .ok (.invokestatic 62, 3) := by decide +kernel
theorem dX6_leads_16 : decode cX6_leads 16 = .ok (.ifCond .eq 13, 3) := by decide +kernel
theorem dX6_leads_19 : decode cX6_leads 19 = .ok (.iload_n 3, 1) := by decide +kernel
theorem dX6_leads_20 : decode cX6_leads 20 = .ok (.i2l, 1) := by decide +kernel
theorem dX6_leads_21 : decode cX6_leads 21 = .ok (.lconst 0, 1) := by decide +kernel
theorem dX6_leads_22 : decode cX6_leads 22 = .ok (.lconst 1, 1) := by decide +kernel
theorem dX6_leads_23 : decode cX6_leads 23 = .ok (.invokestatic 62, 3) := by decide +kernel
theorem dX6_leads_26 : decode cX6_leads 26 = .ok (.ifCond .ne 10, 3) := by decide +kernel
theorem dX6_leads_29 : decode cX6_leads 29 = .ok (.aload_n 0, 1) := by decide +kernel
theorem dX6_leads_30 : decode cX6_leads 30 = .ok (.bipush (-2), 2) := by decide +kernel
theorem dX6_leads_32 : decode cX6_leads 32 = .ok (.invokevirtual 68, 3) := by decide +kernel
theorem dX6_leads_35 : decode cX6_leads 35 = .ok (.ireturn, 1) := by decide +kernel
theorem dX6_leads_36 : decode cX6_leads 36 = .ok (.iconst 0, 1) := by decide +kernel
theorem dX6_leads_37 : decode cX6_leads 37 = .ok (.istore 4, 2) := by decide +kernel
theorem dX6_leads_39 : decode cX6_leads 39 = .ok (.iconst 1, 1) := by decide +kernel
theorem dX6_leads_40 : decode cX6_leads 40 = .ok (.istore 5, 2) := by decide +kernel
theorem dX6_leads_42 : decode cX6_leads 42 = .ok (.iload 5, 2) := by decide +kernel
theorem dX6_leads_44 : decode cX6_leads 44 = .ok (.bipush 10, 2) := by decide +kernel
theorem dX6_leads_46 : decode cX6_leads 46 = .ok (.if_icmp .ge 40, 3) := by decide +kernel
theorem dX6_leads_49 : decode cX6_leads 49 = .ok (.aload_n 0, 1) := by decide +kernel
theorem dX6_leads_50 : decode cX6_leads 50 = .ok (.iload_n 1, 1) := by decide +kernel
theorem dX6_leads_51 : decode cX6_leads 51 = .ok (.iload_n 2, 1) := by decide +kernel
theorem dX6_leads_52 : decode cX6_leads 52 = .ok (.iload 5, 2) := by decide +kernel
theorem dX6_leads_54 : decode cX6_leads 54 = .ok (.iload_n 3, 1) := by decide +kernel
theorem dX6_leads_55 : decode cX6_leads 55 = .ok (.invokevirtual 135, 3) := by decide +kernel
theorem dX6_leads_58 : decode cX6_leads 58 = .ok (.istore 6, 2) := by decide +kernel
theorem dX6_leads_60 : decode cX6_leads 60 = .ok (.iload 4, 2) := by decide +kernel
theorem dX6_leads_62 : decode cX6_leads 62 = .ok (.aload_n 0, 1) := by decide +kernel
theorem dX6_leads_63 : decode cX6_leads 63 = .ok (.invokevirtual 163, 3) := by decide +kernel
theorem dX6_leads_66 : decode cX6_leads 66 = .ok (.ifCond .eq 10, 3) := by decide +kernel
theorem dX6_leads_69 : decode cX6_leads 69 = .ok (.iconst 1, 1) := by decide +kernel
theorem dX6_leads_70 : decode cX6_leads 70 = .ok (.iload 5, 2) := by decide +kernel
theorem dX6_leads_72 : decode cX6_leads 72 = .ok (.ishl, 1) := by decide +kernel
theorem dX6_leads_73 : decode cX6_leads 73 = .ok (.goto 4, 3) := by decide +kernel
theorem dX6_leads_76 : decode cX6_leads 76 = .ok (.iconst 0, 1) := by decide +kernel
theorem dX6_leads_77 : decode cX6_leads 77 = .ok (.ior, 1) := by decide +kernel
theorem dX6_leads_78 : decode cX6_leads 78 = .ok (.istore 4, 2) := by decide +kernel
theorem dX6_leads_80 : decode cX6_leads 80 = .ok (.iinc 5 1, 3) := by decide +kernel
theorem dX6_leads_83 : decode cX6_leads 83 = .ok (.goto (-41), 3) := by decide +kernel
theorem dX6_leads_86 : decode cX6_leads 86 = .ok (.iload 4, 2) := by decide +kernel
theorem dX6_leads_88 : decode cX6_leads 88 = .ok (.ireturn, 1) := by decide +kernel
theorem dX6_tell_0 : decode cX6_tell 0 = .ok (.iload_n 1, 1) := by decide +kernel
theorem dX6_tell_1 : decode cX6_tell 1 = .ok (.istore_n 3, 1) := by decide +kernel
theorem dX6_tell_2 : decode cX6_tell 2 = .ok (.iload_n 2, 1) := by decide +kernel
theorem dX6_tell_3 : decode cX6_tell 3 = .ok (.istore 4, 2) := by decide +kernel
theorem dX6_tell_5 : decode cX6_tell 5 = .ok (.iload 4, 2) := by decide +kernel
theorem dX6_tell_7 : decode cX6_tell 7 = .ok (.ifCond .eq 19, 3) := by decide +kernel
theorem dX6_tell_10 : decode cX6_tell 10 = .ok (.iload_n 3, 1) := by decide +kernel
theorem dX6_tell_11 : decode cX6_tell 11 = .ok (.iload 4, 2) := by decide +kernel
theorem dX6_tell_13 : decode cX6_tell 13 = .ok (.irem, 1) := by decide +kernel
theorem dX6_tell_14 : decode cX6_tell 14 = .ok (.istore 5, 2) := by decide +kernel
theorem dX6_tell_16 : decode cX6_tell 16 = .ok (.iload 4, 2) := by decide +kernel
theorem dX6_tell_18 : decode cX6_tell 18 = .ok (.istore_n 3, 1) := by decide +kernel
theorem dX6_tell_19 : decode cX6_tell 19 = .ok (.iload 5, 2) := by decide +kernel
theorem dX6_tell_21 : decode cX6_tell 21 = .ok (.istore 4, 2) := by decide +kernel
theorem dX6_tell_23 : decode cX6_tell 23 = .ok (.goto (-18), 3) := by decide +kernel
theorem dX6_tell_26 : decode cX6_tell 26 = .ok (.aload_n 0, 1) := by decide +kernel
theorem dX6_tell_27 : decode cX6_tell 27 = .ok (.iload_n 1, 1) := by decide +kernel
theorem dX6_tell_28 : decode cX6_tell 28 = .ok (.iload_n 3, 1) := by decide +kernel
theorem dX6_tell_29 : decode cX6_tell 29 = .ok (.idiv, 1) := by decide +kernel
theorem dX6_tell_30 : decode cX6_tell 30 = .ok (.i2l, 1) := by decide +kernel
theorem dX6_tell_31 : decode cX6_tell 31 = .ok (.putfield 167, 3) := by decide +kernel
theorem dX6_tell_34 : decode cX6_tell 34 = .ok (.aload_n 0, 1) := by decide +kernel
theorem dX6_tell_35 : decode cX6_tell 35 = .ok (.iload_n 2, 1) := by decide +kernel
theorem dX6_tell_36 : decode cX6_tell 36 = .ok (.iload_n 3, 1) := by decide +kernel
theorem dX6_tell_37 : decode cX6_tell 37 = .ok (.idiv, 1) := by decide +kernel
theorem dX6_tell_38 : decode cX6_tell 38 = .ok (.i2l, 1) := by decide +kernel
theorem dX6_tell_39 : decode cX6_tell 39 = .ok (.putfield 23, 3) := by decide +kernel
theorem dX6_tell_42 : decode cX6_tell 42 = .ok (.return_, 1) := by decide +kernel
set_option maxRecDepth 20000 in
theorem ggX6_drawn_X6_in : GoodIn wsX6_drawn wsX6_in := goodIn_r _ [12] (by decide +kernel) (by decide +kernel)
set_option maxRecDepth 20000 in
theorem gX6_drawn_X6_in : GoodIn wsX6_drawn (va_wsS RX6 62 yX6_in wsX6_in) := goodIn_app (goodIn_of _ (by decide +kernel)) ggX6_drawn_X6_in
set_option maxRecDepth 20000 in
theorem ggX6_drawn_X6_isRun : GoodIn wsX6_drawn wsX6_isRun := goodIn_r _ [15, 8, 16, 17, 18, 11, 19, 9, 10, 12] (by decide +kernel) (by decide +kernel)
set_option maxRecDepth 20000 in
theorem gX6_drawn_X6_isRun : GoodIn wsX6_drawn (va_wsS RX6 131 yX6_isRun wsX6_isRun) := goodIn_app (goodIn_of _ (by decide +kernel)) ggX6_drawn_X6_isRun
set_option maxRecDepth 20000 in
theorem ggX6_drawn_X6_bad : GoodIn wsX6_drawn wsX6_bad := goodIn_r _ [23, 24, 78, 79, 80, 81, 82, 83, 84, 85, 86, 87, 88, 89, 90, 91, 92, 93, 94, 95, 96, 97, 98, 99] (by decide +kernel) (by decide +kernel)
set_option maxRecDepth 20000 in
theorem gX6_drawn_X6_bad : GoodIn wsX6_drawn (wsV RX6 68 RX6 yX6_bad wsX6_bad) := goodIn_app (goodIn_of _ (by decide +kernel)) ggX6_drawn_X6_bad
set_option maxRecDepth 20000 in
theorem ggX6_drawn_X6_no : GoodIn wsX6_drawn wsX6_no := goodIn_r _ [28, 24, 78, 79, 80, 81, 82, 83, 84, 85, 86, 87, 88, 89, 90, 91, 92, 93, 94, 95, 96, 97, 98, 99] (by decide +kernel) (by decide +kernel)
set_option maxRecDepth 20000 in
theorem gX6_drawn_X6_no : GoodIn wsX6_drawn (wsV RX6 94 RX6 yX6_no wsX6_no) := goodIn_app (goodIn_of _ (by decide +kernel)) ggX6_drawn_X6_no
set_option maxRecDepth 20000 in
theorem ggX6_drawn_X6_layHand : GoodIn wsX6_drawn wsX6_layHand := goodIn_r _ [32, 33, 34, 6, 35, 36, 37, 11, 38, 78, 79, 80, 81, 82, 83, 84, 85, 86, 87, 88, 89, 90, 91, 92, 93, 94, 95, 96, 97, 98, 99] (by decide +kernel) (by decide +kernel)
set_option maxRecDepth 20000 in
theorem gX6_drawn_X6_layHand : GoodIn wsX6_drawn (wsV RX6 124 RX6 yX6_layHand wsX6_layHand) := goodIn_app (goodIn_of _ (by decide +kernel)) ggX6_drawn_X6_layHand
set_option maxRecDepth 20000 in
theorem ggX6_drawn_X6_locks : GoodIn wsX6_drawn wsX6_locks := goodIn_r _ [42, 33, 78, 79, 80, 81, 82, 83, 84, 85, 86, 87, 88, 89, 90, 91, 92, 93, 94, 95, 96, 97, 98, 99] (by decide +kernel) (by decide +kernel)
set_option maxRecDepth 20000 in
theorem gX6_drawn_X6_locks : GoodIn wsX6_drawn (wsV RX6 58 RX6 yX6_locks wsX6_locks) := goodIn_app (goodIn_of _ (by decide +kernel)) ggX6_drawn_X6_locks
set_option maxRecDepth 20000 in
theorem ggX6_drawn_X6_goRun : GoodIn wsX6_drawn wsX6_goRun := goodIn_r _ [46, 6, 47, 48, 49, 50, 34, 51, 39, 40, 41, 11, 42, 33, 52, 53, 54, 55, 35, 36, 37, 38, 56, 57, 58, 59, 60, 61, 62, 63, 64, 65, 66, 67, 68, 69, 70, 71, 78, 79, 80, 81, 82, 83, 84, 85, 86, 87, 88, 89, 90, 91, 92, 93, 94, 95, 96, 97, 98, 99] (by decide +kernel) (by decide +kernel)
set_option maxRecDepth 20000 in
theorem gX6_drawn_X6_goRun : GoodIn wsX6_drawn (wsV RX6 127 RX6 yX6_goRun wsX6_goRun) := goodIn_app (goodIn_of _ (by decide +kernel)) ggX6_drawn_X6_goRun
set_option maxRecDepth 20000 in
theorem ggX6_drawn_X6_tell : GoodIn wsX6_drawn wsX6_tell := goodIn_r _ [75, 76, 77, 78, 79, 80, 81, 82, 83, 84, 85, 86, 87, 88, 89, 90, 91, 92, 93, 94, 95, 96, 97, 98, 99] (by decide +kernel) (by decide +kernel)
set_option maxRecDepth 20000 in
theorem gX6_drawn_X6_tell : GoodIn wsX6_drawn (wsV RX6 182 RX6 yX6_tell wsX6_tell) := goodIn_app (goodIn_of _ (by decide +kernel)) ggX6_drawn_X6_tell
theorem dX6_drawn_0 : decode cX6_drawn 0 = .ok (.iload_n 1, 1) := by decide +kernel
theorem dX6_drawn_1 : decode cX6_drawn 1 = .ok (.i2l, 1) := by decide +kernel
theorem dX6_drawn_2 : decode cX6_drawn 2 = .ok (.lconst 0, 1) := by decide +kernel
theorem dX6_drawn_3 : decode cX6_drawn 3 = .ok (.ldc2_w 170, 3) := by decide +kernel
theorem dX6_drawn_6 : decode cX6_drawn 6 = .ok (.invokestatic 62, 3) := by decide +kernel
theorem dX6_drawn_9 : decode cX6_drawn 9 = .ok (.ifCond .eq 25, 3) := by decide +kernel
theorem dX6_drawn_12 : decode cX6_drawn 12 = .ok (.iload_n 2, 1) := by decide +kernel
theorem dX6_drawn_13 : decode cX6_drawn 13 = .ok (.i2l, 1) := by decide +kernel
theorem dX6_drawn_14 : decode cX6_drawn 14 = .ok (.lconst 0, 1) := by decide +kernel
theorem dX6_drawn_15 : decode cX6_drawn 15 = .ok (.ldc2_w 172, 3) := by decide +kernel
theorem dX6_drawn_18 : decode cX6_drawn 18 = .ok (.invokestatic 62, 3) := by decide +kernel
theorem dX6_drawn_21 : decode cX6_drawn 21 = .ok (.ifCond .eq 13, 3) := by decide +kernel
theorem dX6_drawn_24 : decode cX6_drawn 24 = .ok (.iconst 0, 1) := by decide +kernel
theorem dX6_drawn_25 : decode cX6_drawn 25 = .ok (.iload_n 3, 1) := by decide +kernel
theorem dX6_drawn_26 : decode cX6_drawn 26 = .ok (.iload 4, 2) := by decide +kernel
theorem dX6_drawn_28 : decode cX6_drawn 28 = .ok (.invokestatic 131, 3) := by decide +kernel
theorem dX6_drawn_31 : decode cX6_drawn 31 = .ok (.ifCond .ne 10, 3) := by decide +kernel
theorem dX6_drawn_34 : decode cX6_drawn 34 = .ok (.aload_n 0, 1) := by decide +kernel
theorem dX6_drawn_35 : decode cX6_drawn 35 = .ok (.bipush (-2), 2) := by decide +kernel
theorem dX6_drawn_37 : decode cX6_drawn 37 = .ok (.invokevirtual 68, 3) := by decide +kernel
theorem dX6_drawn_40 : decode cX6_drawn 40 = .ok (.ireturn, 1) := by decide +kernel
theorem dX6_drawn_41 : decode cX6_drawn 41 = .ok (.iload_n 2, 1) := by decide +kernel
theorem dX6_drawn_42 : decode cX6_drawn 42 = .ok (.ifCond .ne 8, 3) := by decide +kernel
theorem dX6_drawn_45 : decode cX6_drawn 45 = .ok (.aload_n 0, 1) := by decide +kernel
theorem dX6_drawn_46 : decode cX6_drawn 46 = .ok (.invokevirtual 94, 3) := by decide +kernel
theorem dX6_drawn_49 : decode cX6_drawn 49 = .ok (.ireturn, 1) := by decide +kernel
theorem dX6_drawn_50 : decode cX6_drawn 50 = .ok (.iload_n 1, 1) := by decide +kernel
theorem dX6_drawn_51 : decode cX6_drawn 51 = .ok (.i2l, 1) := by decide +kernel
theorem dX6_drawn_52 : decode cX6_drawn 52 = .ok (.lstore 5, 2) := by decide +kernel
theorem dX6_drawn_54 : decode cX6_drawn 54 = .ok (.iconst 0, 1) := by decide +kernel
theorem dX6_drawn_55 : decode cX6_drawn 55 = .ok (.istore 7, 2) := by decide +kernel
theorem dX6_drawn_57 : decode cX6_drawn 57 = .ok (.iconst 0, 1) := by decide +kernel
theorem dX6_drawn_58 : decode cX6_drawn 58 = .ok (.istore 8, 2) := by decide +kernel
theorem dX6_drawn_60 : decode cX6_drawn 60 = .ok (.iload 8, 2) := by decide +kernel
theorem dX6_drawn_62 : decode cX6_drawn 62 = .ok (.iload_n 2, 1) := by decide +kernel
theorem dX6_drawn_63 : decode cX6_drawn 63 = .ok (.if_icmp .ge 79, 3) := by decide +kernel
theorem dX6_drawn_66 : decode cX6_drawn 66 = .ok (.aload_n 0, 1) := by decide +kernel
theorem dX6_drawn_67 : decode cX6_drawn 67 = .ok (.invokevirtual 124, 3) := by decide +kernel
theorem dX6_drawn_70 : decode cX6_drawn 70 = .ok (.iconst 0, 1) := by decide +kernel
theorem dX6_drawn_71 : decode cX6_drawn 71 = .ok (.istore 9, 2) := by decide +kernel
theorem dX6_drawn_73 : decode cX6_drawn 73 = .ok (.iload 9, 2) := by decide +kernel
theorem dX6_drawn_75 : decode cX6_drawn 75 = .ok (.aload_n 0, 1) := by decide +kernel
theorem dX6_drawn_76 : decode cX6_drawn 76 = .ok (.invokevirtual 58, 3) := by decide +kernel
theorem dX6_drawn_79 : decode cX6_drawn 79 = .ok (.if_icmp .ge 43, 3) := by decide +kernel
theorem dX6_drawn_82 : decode cX6_drawn 82 = .ok (.lload 5, 2) := by decide +kernel
theorem dX6_drawn_84 : decode cX6_drawn 84 = .ok (.ldc2_w 174, 3) := by decide +kernel
theorem dX6_drawn_87 : decode cX6_drawn 87 = .ok (.lmul, 1) := by decide +kernel
theorem dX6_drawn_88 : decode cX6_drawn 88 = .ok (.ldc2_w 176, 3) := by decide +kernel
theorem dX6_drawn_91 : decode cX6_drawn 91 = .ok (.ladd, 1) := by decide +kernel
theorem dX6_drawn_92 : decode cX6_drawn 92 = .ok (.ldc2_w 178, 3) := by decide +kernel
theorem dX6_drawn_95 : decode cX6_drawn 95 = .ok (.lrem, 1) := by decide +kernel
theorem dX6_drawn_96 : decode cX6_drawn 96 = .ok (.lstore 5, 2) := by decide +kernel
theorem dX6_drawn_98 : decode cX6_drawn 98 = .ok (.aload_n 0, 1) := by decide +kernel
theorem dX6_drawn_99 : decode cX6_drawn 99 = .ok (.getfield 27, 3) := by decide +kernel
theorem dX6_drawn_102 : decode cX6_drawn 102 = .ok (.iload 9, 2) := by decide +kernel
theorem dX6_drawn_104 : decode cX6_drawn 104 = .ok (.lload 5, 2) := by decide +kernel
theorem dX6_drawn_106 : decode cX6_drawn 106 = .ok (.ldc2_w 180, 3) := by decide +kernel
theorem dX6_drawn_109 : decode cX6_drawn 109 = .ok (.ldiv, 1) := by decide +kernel
theorem dX6_drawn_110 : decode cX6_drawn 110 = .ok (.ldc2_w 122, 3) := by decide +kernel
theorem dX6_drawn_113 : decode cX6_drawn 113 = .ok (.lrem, 1) := by decide +kernel
theorem dX6_drawn_114 : decode cX6_drawn 114 = .ok (.l2i, 1) := by decide +kernel
theorem dX6_drawn_115 : decode cX6_drawn 115 = .ok (.iastore, 1) := by decide +kernel
theorem dX6_drawn_116 : decode cX6_drawn 116 = .ok (.iinc 9 1, 3) := by decide +kernel
theorem dX6_drawn_119 : decode cX6_drawn 119 = .ok (.goto (-46), 3) := by decide +kernel
theorem dX6_drawn_122 : decode cX6_drawn 122 = .ok (.iload 7, 2) := by decide +kernel
theorem dX6_drawn_124 : decode cX6_drawn 124 = .ok (.aload_n 0, 1) := by decide +kernel
theorem dX6_drawn_125 : decode cX6_drawn 125 = .ok (.iconst 0, 1) := by decide +kernel
theorem dX6_drawn_126 : decode cX6_drawn 126 = .ok (.iload_n 3, 1) := by decide +kernel
theorem dX6_drawn_127 : decode cX6_drawn 127 = .ok (.iload 4, 2) := by decide +kernel
theorem dX6_drawn_129 : decode cX6_drawn 129 = .ok (.iconst 0, 1) := by decide +kernel
theorem dX6_drawn_130 : decode cX6_drawn 130 = .ok (.invokevirtual 127, 3) := by decide +kernel
theorem dX6_drawn_133 : decode cX6_drawn 133 = .ok (.iadd, 1) := by decide +kernel
theorem dX6_drawn_134 : decode cX6_drawn 134 = .ok (.istore 7, 2) := by decide +kernel
theorem dX6_drawn_136 : decode cX6_drawn 136 = .ok (.iinc 8 1, 3) := by decide +kernel
theorem dX6_drawn_139 : decode cX6_drawn 139 = .ok (.goto (-79), 3) := by decide +kernel
theorem dX6_drawn_142 : decode cX6_drawn 142 = .ok (.aload_n 0, 1) := by decide +kernel
theorem dX6_drawn_143 : decode cX6_drawn 143 = .ok (.iload 7, 2) := by decide +kernel
theorem dX6_drawn_145 : decode cX6_drawn 145 = .ok (.iload_n 2, 1) := by decide +kernel
theorem dX6_drawn_146 : decode cX6_drawn 146 = .ok (.invokevirtual 182, 3) := by decide +kernel
theorem dX6_drawn_149 : decode cX6_drawn 149 = .ok (.iconst 1, 1) := by decide +kernel
theorem dX6_drawn_150 : decode cX6_drawn 150 = .ok (.ireturn, 1) := by decide +kernel
set_option maxRecDepth 20000 in
theorem ggX6_type_X6_in : GoodIn wsX6_type wsX6_in := goodIn_r _ [7] (by decide +kernel) (by decide +kernel)
set_option maxRecDepth 20000 in
theorem gX6_type_X6_in : GoodIn wsX6_type (va_wsS RX6 62 yX6_in wsX6_in) := goodIn_app (goodIn_of _ (by decide +kernel)) ggX6_type_X6_in
set_option maxRecDepth 20000 in
theorem ggX6_type_X6_bad : GoodIn wsX6_type wsX6_bad := goodIn_r _ [11, 12, 17, 18, 19, 20, 21, 22, 23, 24, 25, 26, 27, 28, 29, 30, 31, 32, 33, 34, 35, 36, 37, 38] (by decide +kernel) (by decide +kernel)
set_option maxRecDepth 20000 in
theorem gX6_type_X6_bad : GoodIn wsX6_type (wsV RX6 68 RX6 yX6_bad wsX6_bad) := goodIn_app (goodIn_of _ (by decide +kernel)) ggX6_type_X6_bad
set_option maxRecDepth 20000 in
theorem ggX6_type_X6_full : GoodIn wsX6_type wsX6_full := goodIn_r _ [16, 12, 17, 18, 19, 20, 21, 22, 23, 24, 25, 26, 27, 28, 29, 30, 31, 32, 33, 34, 35, 36, 37, 38] (by decide +kernel) (by decide +kernel)
set_option maxRecDepth 20000 in
theorem gX6_type_X6_full : GoodIn wsX6_type (wsV RX6 76 RX6 yX6_full wsX6_full) := goodIn_app (goodIn_of _ (by decide +kernel)) ggX6_type_X6_full
theorem dX6_type_0 : decode cX6_type 0 = .ok (.iload_n 1, 1) := by decide +kernel
theorem dX6_type_1 : decode cX6_type 1 = .ok (.i2l, 1) := by decide +kernel
theorem dX6_type_2 : decode cX6_type 2 = .ok (.lconst 0, 1) := by decide +kernel
theorem dX6_type_3 : decode cX6_type 3 = .ok (.ldc2_w 186, 3) := by decide +kernel
theorem dX6_type_6 : decode cX6_type 6 = .ok (.invokestatic 62, 3) := by decide +kernel
theorem dX6_type_9 : decode cX6_type 9 = .ok (.ifCond .ne 10, 3) := by decide +kernel
theorem dX6_type_12 : decode cX6_type 12 = .ok (.aload_n 0, 1) := by decide +kernel
theorem dX6_type_13 : decode cX6_type 13 = .ok (.bipush (-2), 2) := by decide +kernel
theorem dX6_type_15 : decode cX6_type 15 = .ok (.invokevirtual 68, 3) := by decide +kernel
theorem dX6_type_18 : decode cX6_type 18 = .ok (.ireturn, 1) := by decide +kernel
theorem dX6_type_19 : decode cX6_type 19 = .ok (.aload_n 0, 1) := by decide +kernel
theorem dX6_type_20 : decode cX6_type 20 = .ok (.getfield 188, 3) := by decide +kernel
theorem dX6_type_23 : decode cX6_type 23 = .ok (.sipush 150, 3) := by decide +kernel
theorem dX6_type_26 : decode cX6_type 26 = .ok (.if_icmp .ne 8, 3) := by decide +kernel
theorem dX6_type_29 : decode cX6_type 29 = .ok (.aload_n 0, 1) := by decide +kernel
theorem dX6_type_30 : decode cX6_type 30 = .ok (.invokevirtual 76, 3) := by decide +kernel
theorem dX6_type_33 : decode cX6_type 33 = .ok (.ireturn, 1) := by decide +kernel
theorem dX6_type_34 : decode cX6_type 34 = .ok (.aload_n 0, 1) := by decide +kernel
theorem dX6_type_35 : decode cX6_type 35 = .ok (.getfield 45, 3) := by decide +kernel
theorem dX6_type_38 : decode cX6_type 38 = .ok (.aload_n 0, 1) := by decide +kernel
theorem dX6_type_39 : decode cX6_type 39 = .ok (.getfield 188, 3) := by decide +kernel
theorem dX6_type_42 : decode cX6_type 42 = .ok (.iload_n 1, 1) := by decide +kernel
theorem dX6_type_43 : decode cX6_type 43 = .ok (.iastore, 1) := by decide +kernel
theorem dX6_type_44 : decode cX6_type 44 = .ok (.aload_n 0, 1) := by decide +kernel
theorem dX6_type_45 : decode cX6_type 45 = .ok (.dup, 1) := by decide +kernel
theorem dX6_type_46 : decode cX6_type 46 = .ok (.getfield 188, 3) := by decide +kernel
theorem dX6_type_49 : decode cX6_type 49 = .ok (.iconst 1, 1) := by decide +kernel
theorem dX6_type_50 : decode cX6_type 50 = .ok (.iadd, 1) := by decide +kernel
theorem dX6_type_51 : decode cX6_type 51 = .ok (.putfield 188, 3) := by decide +kernel
theorem dX6_type_54 : decode cX6_type 54 = .ok (.aload_n 0, 1) := by decide +kernel
theorem dX6_type_55 : decode cX6_type 55 = .ok (.getfield 188, 3) := by decide +kernel
theorem dX6_type_58 : decode cX6_type 58 = .ok (.ireturn, 1) := by decide +kernel
theorem dX6_clear_0 : decode cX6_clear 0 = .ok (.aload_n 0, 1) := by decide +kernel
theorem dX6_clear_1 : decode cX6_clear 1 = .ok (.getfield 188, 3) := by decide +kernel
theorem dX6_clear_4 : decode cX6_clear 4 = .ok (.istore_n 1, 1) := by decide +kernel
theorem dX6_clear_5 : decode cX6_clear 5 = .ok (.aload_n 0, 1) := by decide +kernel
theorem dX6_clear_6 : decode cX6_clear 6 = .ok (.iconst 0, 1) := by decide +kernel
theorem dX6_clear_7 : decode cX6_clear 7 = .ok (.putfield 188, 3) := by decide +kernel
theorem dX6_clear_10 : decode cX6_clear 10 = .ok (.iload_n 1, 1) := by decide +kernel
theorem dX6_clear_11 : decode cX6_clear 11 = .ok (.ireturn, 1) := by decide +kernel
set_option maxRecDepth 20000 in
theorem ggX6_isSmall_X6_in : GoodIn wsX6_isSmall wsX6_in := goodIn_r _ [6] (by decide +kernel) (by decide +kernel)
set_option maxRecDepth 20000 in
theorem gX6_isSmall_X6_in : GoodIn wsX6_isSmall (va_wsS RX6 62 yX6_in wsX6_in) := goodIn_app (goodIn_of _ (by decide +kernel)) ggX6_isSmall_X6_in
theorem dX6_isSmall_0 : decode cX6_isSmall 0 = .ok (.iload_n 0, 1) := by decide +kernel
theorem dX6_isSmall_1 : decode cX6_isSmall 1 = .ok (.i2l, 1) := by decide +kernel
theorem dX6_isSmall_2 : decode cX6_isSmall 2 = .ok (.ldc2_w 191, 3) := by decide +kernel
theorem dX6_isSmall_5 : decode cX6_isSmall 5 = .ok (.ldc2_w 193, 3) := by decide +kernel
theorem dX6_isSmall_8 : decode cX6_isSmall 8 = .ok (.invokestatic 62, 3) := by decide +kernel
theorem dX6_isSmall_11 : decode cX6_isSmall 11 = .ok (.ireturn, 1) := by decide +kernel
set_option maxRecDepth 20000 in
theorem ggX6_isFigure_X6_in : GoodIn wsX6_isFigure wsX6_in := goodIn_r _ [6] (by decide +kernel) (by decide +kernel)
set_option maxRecDepth 20000 in
theorem gX6_isFigure_X6_in : GoodIn wsX6_isFigure (va_wsS RX6 62 yX6_in wsX6_in) := goodIn_app (goodIn_of _ (by decide +kernel)) ggX6_isFigure_X6_in
theorem dX6_isFigure_0 : decode cX6_isFigure 0 = .ok (.iload_n 0, 1) := by decide +kernel
theorem dX6_isFigure_1 : decode cX6_isFigure 1 = .ok (.i2l, 1) := by decide +kernel
theorem dX6_isFigure_2 : decode cX6_isFigure 2 = .ok (.ldc2_w 195, 3) := by decide +kernel
theorem dX6_isFigure_5 : decode cX6_isFigure 5 = .ok (.ldc2_w 197, 3) := by decide +kernel
theorem dX6_isFigure_8 : decode cX6_isFigure 8 = .ok (.invokestatic 62, 3) := by decide +kernel
theorem dX6_isFigure_11 : decode cX6_isFigure 11 = .ok (.ireturn, 1) := by decide +kernel
set_option maxRecDepth 20000 in
theorem ggX6_lookAt_X6_isSmall : GoodIn wsX6_lookAt wsX6_isSmall := goodIn_r _ [10, 11, 12, 13, 14, 9, 15] (by decide +kernel) (by decide +kernel)
set_option maxRecDepth 20000 in
theorem gX6_lookAt_X6_isSmall : GoodIn wsX6_lookAt (va_wsS RX6 211 yX6_isSmall wsX6_isSmall) := goodIn_app (goodIn_of _ (by decide +kernel)) ggX6_lookAt_X6_isSmall
set_option maxRecDepth 20000 in
theorem ggX6_lookAt_X6_isFigure : GoodIn wsX6_lookAt wsX6_isFigure := goodIn_r _ [18, 19, 20, 13, 14, 9, 15] (by decide +kernel) (by decide +kernel)
set_option maxRecDepth 20000 in
theorem gX6_lookAt_X6_isFigure : GoodIn wsX6_lookAt (va_wsS RX6 214 yX6_isFigure wsX6_isFigure) := goodIn_app (goodIn_of _ (by decide +kernel)) ggX6_lookAt_X6_isFigure
theorem dX6_lookAt_0 : decode cX6_lookAt 0 = .ok (.aload_n 0, 1) := by decide +kernel
theorem dX6_lookAt_1 : decode cX6_lookAt 1 = .ok (.iload_n 1, 1) := by decide +kernel
theorem dX6_lookAt_2 : decode cX6_lookAt 2 = .ok (.putfield 199, 3) := by decide +kernel
theorem dX6_lookAt_5 : decode cX6_lookAt 5 = .ok (.aload_n 0, 1) := by decide +kernel
theorem dX6_lookAt_6 : decode cX6_lookAt 6 = .ok (.getfield 199, 3) := by decide +kernel
theorem dX6_lookAt_9 : decode cX6_lookAt 9 = .ok (.aload_n 0, 1) := by decide +kernel
theorem dX6_lookAt_10 : decode cX6_lookAt 10 = .ok (.getfield 188, 3) := by decide +kernel
theorem dX6_lookAt_13 : decode cX6_lookAt 13 = .ok (.if_icmp .ge 30, 3) := by decide +kernel
theorem dX6_lookAt_16 : decode cX6_lookAt 16 = .ok (.aload_n 0, 1) := by decide +kernel
theorem dX6_lookAt_17 : decode cX6_lookAt 17 = .ok (.getfield 45, 3) := by decide +kernel
theorem dX6_lookAt_20 : decode cX6_lookAt 20 = .ok (.aload_n 0, 1) := by decide +kernel
theorem dX6_lookAt_21 : decode cX6_lookAt 21 = .ok (.getfield 199, 3) := by decide +kernel
theorem dX6_lookAt_24 : decode cX6_lookAt 24 = .ok (.iaload, 1) := by decide +kernel
theorem dX6_lookAt_25 : decode cX6_lookAt 25 = .ok (.bipush 32, 2) := by decide +kernel
theorem dX6_lookAt_27 : decode cX6_lookAt 27 = .ok (.if_icmp .ne 16, 3) := by decide +kernel
theorem dX6_lookAt_30 : decode cX6_lookAt 30 = .ok (.aload_n 0, 1) := by decide +kernel
theorem dX6_lookAt_31 : decode cX6_lookAt 31 = .ok (.dup, 1) := by decide +kernel
theorem dX6_lookAt_32 : decode cX6_lookAt 32 = .ok (.getfield 199, 3) := by decide +kernel
theorem dX6_lookAt_35 : decode cX6_lookAt 35 = .ok (.iconst 1, 1) := by decide +kernel
theorem dX6_lookAt_36 : decode cX6_lookAt 36 = .ok (.iadd, 1) := by decide +kernel
theorem dX6_lookAt_37 : decode cX6_lookAt 37 = .ok (.putfield 199, 3) := by decide +kernel
theorem dX6_lookAt_40 : decode cX6_lookAt 40 = .ok (.goto (-35), 3) := by decide +kernel
theorem dX6_lookAt_43 : decode cX6_lookAt 43 = .ok (.aload_n 0, 1) := by decide +kernel
theorem dX6_lookAt_44 : decode cX6_lookAt 44 = .ok (.iconst 0, 1) := by decide +kernel
theorem dX6_lookAt_45 : decode cX6_lookAt 45 = .ok (.putfield 202, 3) := by decide +kernel
theorem dX6_lookAt_48 : decode cX6_lookAt 48 = .ok (.aload_n 0, 1) := by decide +kernel
theorem dX6_lookAt_49 : decode cX6_lookAt 49 = .ok (.iconst 0, 1) := by decide +kernel
theorem dX6_lookAt_50 : decode cX6_lookAt 50 = .ok (.putfield 205, 3) := by decide +kernel
theorem dX6_lookAt_53 : decode cX6_lookAt 53 = .ok (.aload_n 0, 1) := by decide +kernel
theorem dX6_lookAt_54 : decode cX6_lookAt 54 = .ok (.iconst 0, 1) := by decide +kernel
theorem dX6_lookAt_55 : decode cX6_lookAt 55 = .ok (.putfield 208, 3) := by decide +kernel
theorem dX6_lookAt_58 : decode cX6_lookAt 58 = .ok (.aload_n 0, 1) := by decide +kernel
theorem dX6_lookAt_59 : decode cX6_lookAt 59 = .ok (.getfield 199, 3) := by decide +kernel
theorem dX6_lookAt_62 : decode cX6_lookAt 62 = .ok (.aload_n 0, 1) := by decide +kernel
theorem dX6_lookAt_63 : decode cX6_lookAt 63 = .ok (.getfield 188, 3) := by decide +kernel
theorem dX6_lookAt_66 : decode cX6_lookAt 66 = .ok (.if_icmp .ne 4, 3) := by decide +kernel
theorem dX6_lookAt_69 : decode cX6_lookAt 69 = .ok (.return_, 1) := by decide +kernel
theorem dX6_lookAt_70 : decode cX6_lookAt 70 = .ok (.aload_n 0, 1) := by decide +kernel
theorem dX6_lookAt_71 : decode cX6_lookAt 71 = .ok (.getfield 45, 3) := by decide +kernel
theorem dX6_lookAt_74 : decode cX6_lookAt 74 = .ok (.aload_n 0, 1) := by decide +kernel
theorem dX6_lookAt_75 : decode cX6_lookAt 75 = .ok (.getfield 199, 3) := by decide +kernel
theorem dX6_lookAt_78 : decode cX6_lookAt 78 = .ok (.iaload, 1) := by decide +kernel
theorem dX6_lookAt_79 : decode cX6_lookAt 79 = .ok (.istore_n 2, 1) := by decide +kernel
theorem dX6_lookAt_80 : decode cX6_lookAt 80 = .ok (.aload_n 0, 1) := by decide +kernel
theorem dX6_lookAt_81 : decode cX6_lookAt 81 = .ok (.iload_n 2, 1) := by decide +kernel
theorem dX6_lookAt_82 : decode cX6_lookAt 82 = .ok (.invokestatic 211, 3) := by decide +kernel
theorem dX6_lookAt_85 : decode cX6_lookAt 85 = .ok (.ifCond .eq 7, 3) := by decide +kernel
theorem dX6_lookAt_88 : decode cX6_lookAt 88 = .ok (.iconst 1, 1) := by decide +kernel
theorem dX6_lookAt_89 : decode cX6_lookAt 89 = .ok (.goto 25, 3) := by decide +kernel
theorem dX6_lookAt_92 : decode cX6_lookAt 92 = .ok (.iload_n 2, 1) := by decide +kernel
theorem dX6_lookAt_93 : decode cX6_lookAt 93 = .ok (.invokestatic 214, 3) := by decide +kernel
theorem dX6_lookAt_96 : decode cX6_lookAt 96 = .ok (.ifCond .eq 7, 3) := by decide +kernel
theorem dX6_lookAt_99 : decode cX6_lookAt 99 = .ok (.iconst 2, 1) := by decide +kernel
theorem dX6_lookAt_100 : decode cX6_lookAt 100 = .ok (.goto 14, 3) := by decide +kernel
theorem dX6_lookAt_103 : decode cX6_lookAt 103 = .ok (.iload_n 2, 1) := by decide +kernel
theorem dX6_lookAt_104 : decode cX6_lookAt 104 = .ok (.bipush 59, 2) := by decide +kernel
theorem dX6_lookAt_106 : decode cX6_lookAt 106 = .ok (.if_icmp .ne 7, 3) := by decide +kernel
theorem dX6_lookAt_109 : decode cX6_lookAt 109 = .ok (.iconst 3, 1) := by decide +kernel
theorem dX6_lookAt_110 : decode cX6_lookAt 110 = .ok (.goto 4, 3) := by decide +kernel
theorem dX6_lookAt_113 : decode cX6_lookAt 113 = .ok (.iconst 4, 1) := by decide +kernel
theorem dX6_lookAt_114 : decode cX6_lookAt 114 = .ok (.putfield 205, 3) := by decide +kernel
theorem dX6_lookAt_117 : decode cX6_lookAt 117 = .ok (.aload_n 0, 1) := by decide +kernel
theorem dX6_lookAt_118 : decode cX6_lookAt 118 = .ok (.iconst 1, 1) := by decide +kernel
theorem dX6_lookAt_119 : decode cX6_lookAt 119 = .ok (.putfield 202, 3) := by decide +kernel
theorem dX6_lookAt_122 : decode cX6_lookAt 122 = .ok (.aload_n 0, 1) := by decide +kernel
theorem dX6_lookAt_123 : decode cX6_lookAt 123 = .ok (.getfield 205, 3) := by decide +kernel
theorem dX6_lookAt_126 : decode cX6_lookAt 126 = .ok (.iconst 3, 1) := by decide +kernel
theorem dX6_lookAt_127 : decode cX6_lookAt 127 = .ok (.if_icmp .ge 7, 3) := by decide +kernel
theorem dX6_lookAt_130 : decode cX6_lookAt 130 = .ok (.iconst 1, 1) := by decide +kernel
theorem dX6_lookAt_131 : decode cX6_lookAt 131 = .ok (.goto 4, 3) := by decide +kernel
theorem dX6_lookAt_134 : decode cX6_lookAt 134 = .ok (.iconst 0, 1) := by decide +kernel
theorem dX6_lookAt_135 : decode cX6_lookAt 135 = .ok (.istore_n 3, 1) := by decide +kernel
theorem dX6_lookAt_136 : decode cX6_lookAt 136 = .ok (.iload_n 3, 1) := by decide +kernel
theorem dX6_lookAt_137 : decode cX6_lookAt 137 = .ok (.ifCond .eq 78, 3) := by decide +kernel
theorem dX6_lookAt_140 : decode cX6_lookAt 140 = .ok (.aload_n 0, 1) := by decide +kernel
theorem dX6_lookAt_141 : decode cX6_lookAt 141 = .ok (.getfield 199, 3) := by decide +kernel
theorem dX6_lookAt_144 : decode cX6_lookAt 144 = .ok (.aload_n 0, 1) := by decide +kernel
theorem dX6_lookAt_145 : decode cX6_lookAt 145 = .ok (.getfield 202, 3) := by decide +kernel
theorem dX6_lookAt_148 : decode cX6_lookAt 148 = .ok (.iadd, 1) := by decide +kernel
theorem dX6_lookAt_149 : decode cX6_lookAt 149 = .ok (.aload_n 0, 1) := by decide +kernel
theorem dX6_lookAt_150 : decode cX6_lookAt 150 = .ok (.getfield 188, 3) := by decide +kernel
theorem dX6_lookAt_153 : decode cX6_lookAt 153 = .ok (.if_icmp .ge 62, 3) := by decide +kernel
theorem dX6_lookAt_156 : decode cX6_lookAt 156 = .ok (.aload_n 0, 1) := by decide +kernel
theorem dX6_lookAt_157 : decode cX6_lookAt 157 = .ok (.getfield 45, 3) := by decide +kernel
theorem dX6_lookAt_160 : decode cX6_lookAt 160 = .ok (.aload_n 0, 1) := by decide +kernel
theorem dX6_lookAt_161 : decode cX6_lookAt 161 = .ok (.getfield 199, 3) := by decide +kernel
theorem dX6_lookAt_164 : decode cX6_lookAt 164 = .ok (.aload_n 0, 1) := by decide +kernel
theorem dX6_lookAt_165 : decode cX6_lookAt 165 = .ok (.getfield 202, 3) := by decide +kernel
theorem dX6_lookAt_168 : decode cX6_lookAt 168 = .ok (.iadd, 1) := by decide +kernel
theorem dX6_lookAt_169 : decode cX6_lookAt 169 = .ok (.iaload, 1) := by decide +kernel
theorem dX6_lookAt_170 : decode cX6_lookAt 170 = .ok (.istore 4, 2) := by decide +kernel
theorem dX6_lookAt_172 : decode cX6_lookAt 172 = .ok (.aload_n 0, 1) := by decide +kernel
theorem dX6_lookAt_173 : decode cX6_lookAt 173 = .ok (.getfield 205, 3) := by decide +kernel
theorem dX6_lookAt_176 : decode cX6_lookAt 176 = .ok (.iconst 1, 1) := by decide +kernel
theorem dX6_lookAt_177 : decode cX6_lookAt 177 = .ok (.if_icmp .ne 11, 3) := by decide +kernel
theorem dX6_lookAt_180 : decode cX6_lookAt 180 = .ok (.iload 4, 2) := by decide +kernel
theorem dX6_lookAt_182 : decode cX6_lookAt 182 = .ok (.invokestatic 211, 3) := by decide +kernel
theorem dX6_lookAt_185 : decode cX6_lookAt 185 = .ok (.goto 8, 3) := by decide +kernel
theorem dX6_lookAt_188 : decode cX6_lookAt 188 = .ok (.iload 4, 2) := by decide +kernel
theorem dX6_lookAt_190 : decode cX6_lookAt 190 = .ok (.invokestatic 214, 3) := by decide +kernel
theorem dX6_lookAt_193 : decode cX6_lookAt 193 = .ok (.istore_n 3, 1) := by decide +kernel
theorem dX6_lookAt_194 : decode cX6_lookAt 194 = .ok (.aload_n 0, 1) := by decide +kernel
theorem dX6_lookAt_195 : decode cX6_lookAt 195 = .ok (.dup, 1) := by decide +kernel
theorem dX6_lookAt_196 : decode cX6_lookAt 196 = .ok (.getfield 202, 3) := by decide +kernel
theorem dX6_lookAt_199 : decode cX6_lookAt 199 = .ok (.iload_n 3, 1) := by decide +kernel
theorem dX6_lookAt_200 : decode cX6_lookAt 200 = .ok (.ifCond .eq 7, 3) := by decide +kernel
theorem dX6_lookAt_203 : decode cX6_lookAt 203 = .ok (.iconst 1, 1) := by decide +kernel
theorem dX6_lookAt_204 : decode cX6_lookAt 204 = .ok (.goto 4, 3) := by decide +kernel
theorem dX6_lookAt_207 : decode cX6_lookAt 207 = .ok (.iconst 0, 1) := by decide +kernel
theorem dX6_lookAt_208 : decode cX6_lookAt 208 = .ok (.iadd, 1) := by decide +kernel
theorem dX6_lookAt_209 : decode cX6_lookAt 209 = .ok (.putfield 202, 3) := by decide +kernel
theorem dX6_lookAt_212 : decode cX6_lookAt 212 = .ok (.goto (-76), 3) := by decide +kernel
theorem dX6_lookAt_215 : decode cX6_lookAt 215 = .ok (.iconst 0, 1) := by decide +kernel
theorem dX6_lookAt_216 : decode cX6_lookAt 216 = .ok (.istore 4, 2) := by decide +kernel
theorem dX6_lookAt_218 : decode cX6_lookAt 218 = .ok (.iload 4, 2) := by decide +kernel
theorem dX6_lookAt_220 : decode cX6_lookAt 220 = .ok (.aload_n 0, 1) := by decide +kernel
theorem dX6_lookAt_221 : decode cX6_lookAt 221 = .ok (.getfield 202, 3) := by decide +kernel
theorem dX6_lookAt_224 : decode cX6_lookAt 224 = .ok (.if_icmp .ge 50, 3) := by decide +kernel
theorem dX6_lookAt_227 : decode cX6_lookAt 227 = .ok (.iload 4, 2) := by decide +kernel
theorem dX6_lookAt_229 : decode cX6_lookAt 229 = .ok (.iconst 2, 1) := by decide +kernel
theorem dX6_lookAt_230 : decode cX6_lookAt 230 = .ok (.if_icmp .ge 44, 3) := by decide +kernel
theorem dX6_lookAt_233 : decode cX6_lookAt 233 = .ok (.aload_n 0, 1) := by decide +kernel
theorem dX6_lookAt_234 : decode cX6_lookAt 234 = .ok (.getfield 205, 3) := by decide +kernel
theorem dX6_lookAt_237 : decode cX6_lookAt 237 = .ok (.iconst 2, 1) := by decide +kernel
theorem dX6_lookAt_238 : decode cX6_lookAt 238 = .ok (.if_icmp .ne 36, 3) := by decide +kernel
theorem dX6_lookAt_241 : decode cX6_lookAt 241 = .ok (.aload_n 0, 1) := by decide +kernel
theorem dX6_lookAt_242 : decode cX6_lookAt 242 = .ok (.bipush 10, 2) := by decide +kernel
theorem dX6_lookAt_244 : decode cX6_lookAt 244 = .ok (.aload_n 0, 1) := by decide +kernel
theorem dX6_lookAt_245 : decode cX6_lookAt 245 = .ok (.getfield 208, 3) := by decide +kernel
theorem dX6_lookAt_248 : decode cX6_lookAt 248 = .ok (.imul, 1) := by decide +kernel
theorem dX6_lookAt_249 : decode cX6_lookAt 249 = .ok (.aload_n 0, 1) := by decide +kernel
theorem dX6_lookAt_250 : decode cX6_lookAt 250 = .ok (.getfield 45, 3) := by decide +kernel
theorem dX6_lookAt_253 : decode cX6_lookAt 253 = .ok (.aload_n 0, 1) := by decide +kernel
theorem dX6_lookAt_254 : decode cX6_lookAt 254 = .ok (.getfield 199, 3) := by decide +kernel
theorem dX6_lookAt_257 : decode cX6_lookAt 257 = .ok (.iload 4, 2) := by decide +kernel
theorem dX6_lookAt_259 : decode cX6_lookAt 259 = .ok (.iadd, 1) := by decide +kernel
theorem dX6_lookAt_260 : decode cX6_lookAt 260 = .ok (.iaload, 1) := by decide +kernel
theorem dX6_lookAt_261 : decode cX6_lookAt 261 = .ok (.iadd, 1) := by decide +kernel
theorem dX6_lookAt_262 : decode cX6_lookAt 262 = .ok (.bipush 48, 2) := by decide +kernel
theorem dX6_lookAt_264 : decode cX6_lookAt 264 = .ok (.isub, 1) := by decide +kernel
theorem dX6_lookAt_265 : decode cX6_lookAt 265 = .ok (.putfield 208, 3) := by decide +kernel
theorem dX6_lookAt_268 : decode cX6_lookAt 268 = .ok (.iinc 4 1, 3) := by decide +kernel
theorem dX6_lookAt_271 : decode cX6_lookAt 271 = .ok (.goto (-53), 3) := by decide +kernel
theorem dX6_lookAt_274 : decode cX6_lookAt 274 = .ok (.aload_n 0, 1) := by decide +kernel
theorem dX6_lookAt_275 : decode cX6_lookAt 275 = .ok (.aload_n 0, 1) := by decide +kernel
theorem dX6_lookAt_276 : decode cX6_lookAt 276 = .ok (.getfield 205, 3) := by decide +kernel
theorem dX6_lookAt_279 : decode cX6_lookAt 279 = .ok (.iconst 2, 1) := by decide +kernel
theorem dX6_lookAt_280 : decode cX6_lookAt 280 = .ok (.if_icmp .ne 15, 3) := by decide +kernel
theorem dX6_lookAt_283 : decode cX6_lookAt 283 = .ok (.aload_n 0, 1) := by decide +kernel
theorem dX6_lookAt_284 : decode cX6_lookAt 284 = .ok (.getfield 202, 3) := by decide +kernel
theorem dX6_lookAt_287 : decode cX6_lookAt 287 = .ok (.iconst 2, 1) := by decide +kernel
theorem dX6_lookAt_288 : decode cX6_lookAt 288 = .ok (.if_icmp .le 7, 3) := by decide +kernel
theorem dX6_lookAt_291 : decode cX6_lookAt 291 = .ok (.iconst 4, 1) := by decide +kernel
theorem dX6_lookAt_292 : decode cX6_lookAt 292 = .ok (.goto 7, 3) := by decide +kernel
theorem dX6_lookAt_295 : decode cX6_lookAt 295 = .ok (.aload_n 0, 1) := by decide +kernel
theorem dX6_lookAt_296 : decode cX6_lookAt 296 = .ok (.getfield 205, 3) := by decide +kernel
theorem dX6_lookAt_299 : decode cX6_lookAt 299 = .ok (.putfield 205, 3) := by decide +kernel
theorem dX6_lookAt_302 : decode cX6_lookAt 302 = .ok (.return_, 1) := by decide +kernel
set_option maxRecDepth 20000 in
theorem ggX6_goOn_X6_lookAt : GoodIn wsX6_goOn wsX6_lookAt := goodIn_r _ [7, 1, 8, 9, 2, 10, 11, 12, 13, 6, 14, 15, 16, 17, 18, 19, 20, 21, 22, 23, 24, 25, 26, 27, 28, 29, 30, 31, 32, 33, 34, 35, 36, 37, 38, 39, 40, 41, 42, 43, 44, 45, 46] (by decide +kernel) (by decide +kernel)
set_option maxRecDepth 20000 in
theorem gX6_goOn_X6_lookAt : GoodIn wsX6_goOn (wsV RX6 217 RX6 yX6_lookAt wsX6_lookAt) := goodIn_app (goodIn_of _ (by decide +kernel)) ggX6_goOn_X6_lookAt
theorem dX6_goOn_0 : decode cX6_goOn 0 = .ok (.aload_n 0, 1) := by decide +kernel
theorem dX6_goOn_1 : decode cX6_goOn 1 = .ok (.aload_n 0, 1) := by decide +kernel
theorem dX6_goOn_2 : decode cX6_goOn 2 = .ok (.getfield 199, 3) := by decide +kernel
theorem dX6_goOn_5 : decode cX6_goOn 5 = .ok (.aload_n 0, 1) := by decide +kernel
theorem dX6_goOn_6 : decode cX6_goOn 6 = .ok (.getfield 202, 3) := by decide +kernel
theorem dX6_goOn_9 : decode cX6_goOn 9 = .ok (.iadd, 1) := by decide +kernel
theorem dX6_goOn_10 : decode cX6_goOn 10 = .ok (.invokevirtual 217, 3) := by decide +kernel
theorem dX6_goOn_13 : decode cX6_goOn 13 = .ok (.return_, 1) := by decide +kernel
theorem dX6_isCalled_0 : decode cX6_isCalled 0 = .ok (.aload_n 0, 1) := by decide +kernel
theorem dX6_isCalled_1 : decode cX6_isCalled 1 = .ok (.getfield 205, 3) := by decide +kernel
theorem dX6_isCalled_4 : decode cX6_isCalled 4 = .ok (.iconst 1, 1) := by decide +kernel
theorem dX6_isCalled_5 : decode cX6_isCalled 5 = .ok (.if_icmp .ne 15, 3) := by decide +kernel
theorem dX6_isCalled_8 : decode cX6_isCalled 8 = .ok (.aload_n 0, 1) := by decide +kernel
theorem dX6_isCalled_9 : decode cX6_isCalled 9 = .ok (.getfield 202, 3) := by decide +kernel
theorem dX6_isCalled_12 : decode cX6_isCalled 12 = .ok (.iload_n 1, 1) := by decide +kernel
theorem dX6_isCalled_13 : decode cX6_isCalled 13 = .ok (.if_icmp .ne 7, 3) := by decide +kernel
theorem dX6_isCalled_16 : decode cX6_isCalled 16 = .ok (.iconst 1, 1) := by decide +kernel
theorem dX6_isCalled_17 : decode cX6_isCalled 17 = .ok (.goto 4, 3) := by decide +kernel
theorem dX6_isCalled_20 : decode cX6_isCalled 20 = .ok (.iconst 0, 1) := by decide +kernel
theorem dX6_isCalled_21 : decode cX6_isCalled 21 = .ok (.istore 8, 2) := by decide +kernel
theorem dX6_isCalled_23 : decode cX6_isCalled 23 = .ok (.iconst 0, 1) := by decide +kernel
theorem dX6_isCalled_24 : decode cX6_isCalled 24 = .ok (.istore 9, 2) := by decide +kernel
theorem dX6_isCalled_26 : decode cX6_isCalled 26 = .ok (.iload 9, 2) := by decide +kernel
theorem dX6_isCalled_28 : decode cX6_isCalled 28 = .ok (.iload_n 1, 1) := by decide +kernel
theorem dX6_isCalled_29 : decode cX6_isCalled 29 = .ok (.if_icmp .ge 90, 3) := by decide +kernel
theorem dX6_isCalled_32 : decode cX6_isCalled 32 = .ok (.iload 8, 2) := by decide +kernel
theorem dX6_isCalled_34 : decode cX6_isCalled 34 = .ok (.ifCond .eq 85, 3) := by decide +kernel
theorem dX6_isCalled_37 : decode cX6_isCalled 37 = .ok (.aload_n 0, 1) := by decide +kernel
theorem dX6_isCalled_38 : decode cX6_isCalled 38 = .ok (.getfield 45, 3) := by decide +kernel
theorem dX6_isCalled_41 : decode cX6_isCalled 41 = .ok (.aload_n 0, 1) := by decide +kernel
theorem dX6_isCalled_42 : decode cX6_isCalled 42 = .ok (.getfield 199, 3) := by decide +kernel
theorem dX6_isCalled_45 : decode cX6_isCalled 45 = .ok (.iload 9, 2) := by decide +kernel
theorem dX6_isCalled_47 : decode cX6_isCalled 47 = .ok (.iadd, 1) := by decide +kernel
theorem dX6_isCalled_48 : decode cX6_isCalled 48 = .ok (.iaload, 1) := by decide +kernel
theorem dX6_isCalled_49 : decode cX6_isCalled 49 = .ok (.iload 9, 2) := by decide +kernel
theorem dX6_isCalled_51 : decode cX6_isCalled 51 = .ok (.ifCond .ne 7, 3) := by decide +kernel
theorem dX6_isCalled_54 : decode cX6_isCalled 54 = .ok (.iload_n 2, 1) := by decide +kernel
theorem dX6_isCalled_55 : decode cX6_isCalled 55 = .ok (.goto 48, 3) := by decide +kernel
theorem dX6_isCalled_58 : decode cX6_isCalled 58 = .ok (.iload 9, 2) := by decide +kernel
theorem dX6_isCalled_60 : decode cX6_isCalled 60 = .ok (.iconst 1, 1) := by decide +kernel
theorem dX6_isCalled_61 : decode cX6_isCalled 61 = .ok (.if_icmp .ne 7, 3) := by decide +kernel
theorem dX6_isCalled_64 : decode cX6_isCalled 64 = .ok (.iload_n 3, 1) := by decide +kernel
theorem dX6_isCalled_65 : decode cX6_isCalled 65 = .ok (.goto 38, 3) := by decide +kernel
theorem dX6_isCalled_68 : decode cX6_isCalled 68 = .ok (.iload 9, 2) := by decide +kernel
theorem dX6_isCalled_70 : decode cX6_isCalled 70 = .ok (.iconst 2, 1) := by decide +kernel
theorem dX6_isCalled_71 : decode cX6_isCalled 71 = .ok (.if_icmp .ne 8, 3) := by decide +kernel
theorem dX6_isCalled_74 : decode cX6_isCalled 74 = .ok (.iload 4, 2) := by decide +kernel
theorem dX6_isCalled_76 : decode cX6_isCalled 76 = .ok (.goto 27, 3) := by decide +kernel
theorem dX6_isCalled_79 : decode cX6_isCalled 79 = .ok (.iload 9, 2) := by decide +kernel
theorem dX6_isCalled_81 : decode cX6_isCalled 81 = .ok (.iconst 3, 1) := by decide +kernel
theorem dX6_isCalled_82 : decode cX6_isCalled 82 = .ok (.if_icmp .ne 8, 3) := by decide +kernel
theorem dX6_isCalled_85 : decode cX6_isCalled 85 = .ok (.iload 5, 2) := by decide +kernel
theorem dX6_isCalled_87 : decode cX6_isCalled 87 = .ok (.goto 16, 3) := by decide +kernel
theorem dX6_isCalled_90 : decode cX6_isCalled 90 = .ok (.iload 9, 2) := by decide +kernel
theorem dX6_isCalled_92 : decode cX6_isCalled 92 = .ok (.iconst 4, 1) := by decide +kernel
theorem dX6_isCalled_93 : decode cX6_isCalled 93 = .ok (.if_icmp .ne 8, 3) := by decide +kernel
theorem dX6_isCalled_96 : decode cX6_isCalled 96 = .ok (.iload 6, 2) := by decide +kernel
theorem dX6_isCalled_98 : decode cX6_isCalled 98 = .ok (.goto 5, 3) := by decide +kernel
theorem dX6_isCalled_101 : decode cX6_isCalled 101 = .ok (.iload 7, 2) := by decide +kernel
theorem dX6_isCalled_103 : decode cX6_isCalled 103 = .ok (.if_icmp .ne 7, 3) := by decide +kernel
theorem dX6_isCalled_106 : decode cX6_isCalled 106 = .ok (.iconst 1, 1) := by decide +kernel
theorem dX6_isCalled_107 : decode cX6_isCalled 107 = .ok (.goto 4, 3) := by decide +kernel
theorem dX6_isCalled_110 : decode cX6_isCalled 110 = .ok (.iconst 0, 1) := by decide +kernel
theorem dX6_isCalled_111 : decode cX6_isCalled 111 = .ok (.istore 8, 2) := by decide +kernel
theorem dX6_isCalled_113 : decode cX6_isCalled 113 = .ok (.iinc 9 1, 3) := by decide +kernel
theorem dX6_isCalled_116 : decode cX6_isCalled 116 = .ok (.goto (-90), 3) := by decide +kernel
theorem dX6_isCalled_119 : decode cX6_isCalled 119 = .ok (.iload 8, 2) := by decide +kernel
theorem dX6_isCalled_121 : decode cX6_isCalled 121 = .ok (.ireturn, 1) := by decide +kernel
set_option maxRecDepth 20000 in
theorem ggX6_eats_X6_in : GoodIn wsX6_eats wsX6_in := goodIn_r _ [7] (by decide +kernel) (by decide +kernel)
set_option maxRecDepth 20000 in
theorem gX6_eats_X6_in : GoodIn wsX6_eats (va_wsS RX6 62 yX6_in wsX6_in) := goodIn_app (goodIn_of _ (by decide +kernel)) ggX6_eats_X6_in
set_option maxRecDepth 20000 in
theorem ggX6_eats_X6_goOn : GoodIn wsX6_eats wsX6_goOn := goodIn_r _ [11, 12, 13, 14, 15, 16, 6, 17, 18, 19, 1, 2, 20, 21, 22, 23, 24, 4, 5, 7, 25, 26, 27, 28, 29, 30, 31, 32, 33, 34, 35, 36, 37, 38, 39, 40, 41, 42, 43, 44, 45, 46, 47, 48, 49, 50, 51] (by decide +kernel) (by decide +kernel)
set_option maxRecDepth 20000 in
theorem gX6_eats_X6_goOn : GoodIn wsX6_eats (wsV RX6 221 RX6 yX6_goOn wsX6_goOn) := goodIn_app (goodIn_of _ (by decide +kernel)) ggX6_eats_X6_goOn
theorem dX6_eats_0 : decode cX6_eats 0 = .ok (.aload_n 0, 1) := by decide +kernel
theorem dX6_eats_1 : decode cX6_eats 1 = .ok (.getfield 205, 3) := by decide +kernel
theorem dX6_eats_4 : decode cX6_eats 4 = .ok (.iconst 2, 1) := by decide +kernel
theorem dX6_eats_5 : decode cX6_eats 5 = .ok (.if_icmp .ne 18, 3) := by decide +kernel
theorem dX6_eats_8 : decode cX6_eats 8 = .ok (.aload_n 0, 1) := by decide +kernel
theorem dX6_eats_9 : decode cX6_eats 9 = .ok (.getfield 208, 3) := by decide +kernel
theorem dX6_eats_12 : decode cX6_eats 12 = .ok (.i2l, 1) := by decide +kernel
theorem dX6_eats_13 : decode cX6_eats 13 = .ok (.iload_n 2, 1) := by decide +kernel
theorem dX6_eats_14 : decode cX6_eats 14 = .ok (.i2l, 1) := by decide +kernel
theorem dX6_eats_15 : decode cX6_eats 15 = .ok (.iload_n 3, 1) := by decide +kernel
theorem dX6_eats_16 : decode cX6_eats 16 = .ok (.i2l, 1) := by decide +kernel
theorem dX6_eats_17 : decode cX6_eats 17 = .ok (.invokestatic 62, 3) := by decide +kernel
theorem dX6_eats_20 : decode cX6_eats 20 = .ok (.ifCond .ne 5, 3) := by decide +kernel
theorem dX6_eats_23 : decode cX6_eats 23 = .ok (.iconst 0, 1) := by decide +kernel
theorem dX6_eats_24 : decode cX6_eats 24 = .ok (.ireturn, 1) := by decide +kernel
theorem dX6_eats_25 : decode cX6_eats 25 = .ok (.aload_n 0, 1) := by decide +kernel
theorem dX6_eats_26 : decode cX6_eats 26 = .ok (.getfield 51, 3) := by decide +kernel
theorem dX6_eats_29 : decode cX6_eats 29 = .ok (.iload_n 1, 1) := by decide +kernel
theorem dX6_eats_30 : decode cX6_eats 30 = .ok (.aload_n 0, 1) := by decide +kernel
theorem dX6_eats_31 : decode cX6_eats 31 = .ok (.getfield 208, 3) := by decide +kernel
theorem dX6_eats_34 : decode cX6_eats 34 = .ok (.iastore, 1) := by decide +kernel
theorem dX6_eats_35 : decode cX6_eats 35 = .ok (.aload_n 0, 1) := by decide +kernel
theorem dX6_eats_36 : decode cX6_eats 36 = .ok (.invokevirtual 221, 3) := by decide +kernel
theorem dX6_eats_39 : decode cX6_eats 39 = .ok (.iconst 1, 1) := by decide +kernel
theorem dX6_eats_40 : decode cX6_eats 40 = .ok (.ireturn, 1) := by decide +kernel
set_option maxRecDepth 20000 in
theorem ggX6_readsFirst_X6_isCalled : GoodIn wsX6_readsFirst wsX6_isCalled := goodIn_r _ [8, 3, 9, 10, 11, 42, 43, 44, 45, 46, 47, 48, 49, 50, 51, 52, 53, 54, 55, 56, 57, 58, 59, 60, 61, 62, 63] (by decide +kernel) (by decide +kernel)
set_option maxRecDepth 20000 in
theorem gX6_readsFirst_X6_isCalled : GoodIn wsX6_readsFirst (wsV RX6 224 RX6 yX6_isCalled wsX6_isCalled) := goodIn_app (goodIn_of _ (by decide +kernel)) ggX6_readsFirst_X6_isCalled
set_option maxRecDepth 20000 in
theorem ggX6_readsFirst_X6_goOn : GoodIn wsX6_readsFirst wsX6_goOn := goodIn_r _ [15, 11, 9, 16, 17, 18, 7, 19, 20, 10, 3, 21, 22, 23, 24, 25, 26, 27, 28, 29, 30, 31, 32, 33, 34, 42, 43, 44, 45, 46, 47, 48, 49, 50, 51, 52, 53, 54, 55, 56, 57, 58, 59, 60, 61, 62, 63] (by decide +kernel) (by decide +kernel)
set_option maxRecDepth 20000 in
theorem gX6_readsFirst_X6_goOn : GoodIn wsX6_readsFirst (wsV RX6 221 RX6 yX6_goOn wsX6_goOn) := goodIn_app (goodIn_of _ (by decide +kernel)) ggX6_readsFirst_X6_goOn
set_option maxRecDepth 20000 in
theorem ggX6_readsFirst_X6_eats : GoodIn wsX6_readsFirst wsX6_eats := goodIn_r _ [38, 3, 21, 2, 27, 28, 7, 29, 12, 13, 14, 15, 11, 9, 16, 17, 18, 19, 20, 10, 22, 23, 24, 25, 26, 30, 31, 32, 33, 34, 42, 43, 44, 45, 46, 47, 48, 49, 50, 51, 52, 53, 54, 55, 56, 57, 58, 59, 60, 61, 62, 63] (by decide +kernel) (by decide +kernel)
set_option maxRecDepth 20000 in
theorem gX6_readsFirst_X6_eats : GoodIn wsX6_readsFirst (wsV RX6 228 RX6 yX6_eats wsX6_eats) := goodIn_app (goodIn_of _ (by decide +kernel)) ggX6_readsFirst_X6_eats
set_option maxRecDepth 20000 in
theorem ggX6_readsFirst_X6_begin : GoodIn wsX6_readsFirst wsX6_begin := goodIn_r _ [41] (by decide +kernel) (by decide +kernel)
set_option maxRecDepth 20000 in
theorem gX6_readsFirst_X6_begin : GoodIn wsX6_readsFirst (va_wsS RX6 54 yX6_begin wsX6_begin) := goodIn_app (goodIn_of _ (by decide +kernel)) ggX6_readsFirst_X6_begin
theorem dX6_readsFirst_0 : decode cX6_readsFirst 0 = .ok (.aload_n 0, 1) := by decide +kernel
theorem dX6_readsFirst_1 : decode cX6_readsFirst 1 = .ok (.bipush 6, 2) := by decide +kernel
theorem dX6_readsFirst_3 : decode cX6_readsFirst 3 = .ok (.bipush 102, 2) := by decide +kernel
theorem dX6_readsFirst_5 : decode cX6_readsFirst 5 = .ok (.bipush 108, 2) := by decide +kernel
theorem dX6_readsFirst_7 : decode cX6_readsFirst 7 = .ok (.bipush 105, 2) := by decide +kernel
theorem dX6_readsFirst_9 : decode cX6_readsFirst 9 = .ok (.bipush 103, 2) := by decide +kernel
theorem dX6_readsFirst_11 : decode cX6_readsFirst 11 = .ok (.bipush 104, 2) := by decide +kernel
theorem dX6_readsFirst_13 : decode cX6_readsFirst 13 = .ok (.bipush 116, 2) := by decide +kernel
theorem dX6_readsFirst_15 : decode cX6_readsFirst 15 = .ok (.invokevirtual 224, 3) := by decide +kernel
theorem dX6_readsFirst_18 : decode cX6_readsFirst 18 = .ok (.ifCond .ne 5, 3) := by decide +kernel
theorem dX6_readsFirst_21 : decode cX6_readsFirst 21 = .ok (.iconst 0, 1) := by decide +kernel
theorem dX6_readsFirst_22 : decode cX6_readsFirst 22 = .ok (.ireturn, 1) := by decide +kernel
theorem dX6_readsFirst_23 : decode cX6_readsFirst 23 = .ok (.aload_n 0, 1) := by decide +kernel
theorem dX6_readsFirst_24 : decode cX6_readsFirst 24 = .ok (.invokevirtual 221, 3) := by decide +kernel
theorem dX6_readsFirst_27 : decode cX6_readsFirst 27 = .ok (.aload_n 0, 1) := by decide +kernel
theorem dX6_readsFirst_28 : decode cX6_readsFirst 28 = .ok (.iconst 0, 1) := by decide +kernel
theorem dX6_readsFirst_29 : decode cX6_readsFirst 29 = .ok (.iconst 0, 1) := by decide +kernel
theorem dX6_readsFirst_30 : decode cX6_readsFirst 30 = .ok (.bipush 9, 2) := by decide +kernel
theorem dX6_readsFirst_32 : decode cX6_readsFirst 32 = .ok (.invokevirtual 228, 3) := by decide +kernel
theorem dX6_readsFirst_35 : decode cX6_readsFirst 35 = .ok (.istore_n 1, 1) := by decide +kernel
theorem dX6_readsFirst_36 : decode cX6_readsFirst 36 = .ok (.aload_n 0, 1) := by decide +kernel
theorem dX6_readsFirst_37 : decode cX6_readsFirst 37 = .ok (.getfield 48, 3) := by decide +kernel
theorem dX6_readsFirst_40 : decode cX6_readsFirst 40 = .ok (.iload_n 1, 1) := by decide +kernel
theorem dX6_readsFirst_41 : decode cX6_readsFirst 41 = .ok (.ifCond .eq 12, 3) := by decide +kernel
theorem dX6_readsFirst_44 : decode cX6_readsFirst 44 = .ok (.aload_n 0, 1) := by decide +kernel
theorem dX6_readsFirst_45 : decode cX6_readsFirst 45 = .ok (.getfield 51, 3) := by decide +kernel
theorem dX6_readsFirst_48 : decode cX6_readsFirst 48 = .ok (.iconst 0, 1) := by decide +kernel
theorem dX6_readsFirst_49 : decode cX6_readsFirst 49 = .ok (.iaload, 1) := by decide +kernel
theorem dX6_readsFirst_50 : decode cX6_readsFirst 50 = .ok (.goto 4, 3) := by decide +kernel
theorem dX6_readsFirst_53 : decode cX6_readsFirst 53 = .ok (.iconst 0, 1) := by decide +kernel
theorem dX6_readsFirst_54 : decode cX6_readsFirst 54 = .ok (.invokestatic 54, 3) := by decide +kernel
theorem dX6_readsFirst_57 : decode cX6_readsFirst 57 = .ok (.iload_n 1, 1) := by decide +kernel
theorem dX6_readsFirst_58 : decode cX6_readsFirst 58 = .ok (.ifCond .eq 15, 3) := by decide +kernel
theorem dX6_readsFirst_61 : decode cX6_readsFirst 61 = .ok (.aload_n 0, 1) := by decide +kernel
theorem dX6_readsFirst_62 : decode cX6_readsFirst 62 = .ok (.getfield 205, 3) := by decide +kernel
theorem dX6_readsFirst_65 : decode cX6_readsFirst 65 = .ok (.iconst 3, 1) := by decide +kernel
theorem dX6_readsFirst_66 : decode cX6_readsFirst 66 = .ok (.if_icmp .ne 7, 3) := by decide +kernel
theorem dX6_readsFirst_69 : decode cX6_readsFirst 69 = .ok (.iconst 1, 1) := by decide +kernel
theorem dX6_readsFirst_70 : decode cX6_readsFirst 70 = .ok (.goto 4, 3) := by decide +kernel
theorem dX6_readsFirst_73 : decode cX6_readsFirst 73 = .ok (.iconst 0, 1) := by decide +kernel
theorem dX6_readsFirst_74 : decode cX6_readsFirst 74 = .ok (.ireturn, 1) := by decide +kernel
set_option maxRecDepth 20000 in
theorem ggX6_readsLock_X6_isCalled : GoodIn wsX6_readsLock wsX6_isCalled := goodIn_r _ [7, 8, 9, 10, 11, 42, 43, 44, 45, 46, 47, 48, 49, 50, 51, 52, 53, 54, 55, 56, 57, 58, 59, 60, 61, 62, 63] (by decide +kernel) (by decide +kernel)
set_option maxRecDepth 20000 in
theorem gX6_readsLock_X6_isCalled : GoodIn wsX6_readsLock (wsV RX6 224 RX6 yX6_isCalled wsX6_isCalled) := goodIn_app (goodIn_of _ (by decide +kernel)) ggX6_readsLock_X6_isCalled
set_option maxRecDepth 20000 in
theorem ggX6_readsLock_X6_goOn : GoodIn wsX6_readsLock wsX6_goOn := goodIn_r _ [15, 11, 9, 16, 17, 18, 6, 19, 20, 10, 8, 21, 22, 23, 24, 25, 26, 27, 28, 29, 30, 31, 32, 33, 34, 42, 43, 44, 45, 46, 47, 48, 49, 50, 51, 52, 53, 54, 55, 56, 57, 58, 59, 60, 61, 62, 63] (by decide +kernel) (by decide +kernel)
set_option maxRecDepth 20000 in
theorem gX6_readsLock_X6_goOn : GoodIn wsX6_readsLock (wsV RX6 221 RX6 yX6_goOn wsX6_goOn) := goodIn_app (goodIn_of _ (by decide +kernel)) ggX6_readsLock_X6_goOn
set_option maxRecDepth 20000 in
theorem ggX6_readsLock_X6_eats : GoodIn wsX6_readsLock wsX6_eats := goodIn_r _ [38, 8, 21, 2, 27, 28, 6, 29, 12, 13, 14, 15, 11, 9, 16, 17, 18, 19, 20, 10, 22, 23, 24, 25, 26, 30, 31, 32, 33, 34, 42, 43, 44, 45, 46, 47, 48, 49, 50, 51, 52, 53, 54, 55, 56, 57, 58, 59, 60, 61, 62, 63] (by decide +kernel) (by decide +kernel)
set_option maxRecDepth 20000 in
theorem gX6_readsLock_X6_eats : GoodIn wsX6_readsLock (wsV RX6 228 RX6 yX6_eats wsX6_eats) := goodIn_app (goodIn_of _ (by decide +kernel)) ggX6_readsLock_X6_eats
set_option maxRecDepth 20000 in
theorem ggX6_readsLock_X6_layLock : GoodIn wsX6_readsLock wsX6_layLock := goodIn_r _ [41] (by decide +kernel) (by decide +kernel)
set_option maxRecDepth 20000 in
theorem gX6_readsLock_X6_layLock : GoodIn wsX6_readsLock (va_wsS RX6 79 yX6_layLock wsX6_layLock) := goodIn_app (goodIn_of _ (by decide +kernel)) ggX6_readsLock_X6_layLock
theorem dX6_readsLock_0 : decode cX6_readsLock 0 = .ok (.aload_n 0, 1) := by decide +kernel
theorem dX6_readsLock_1 : decode cX6_readsLock 1 = .ok (.iconst 4, 1) := by decide +kernel
theorem dX6_readsLock_2 : decode cX6_readsLock 2 = .ok (.bipush 108, 2) := by decide +kernel
theorem dX6_readsLock_4 : decode cX6_readsLock 4 = .ok (.bipush 111, 2) := by decide +kernel
theorem dX6_readsLock_6 : decode cX6_readsLock 6 = .ok (.bipush 99, 2) := by decide +kernel
theorem dX6_readsLock_8 : decode cX6_readsLock 8 = .ok (.bipush 107, 2) := by decide +kernel
theorem dX6_readsLock_10 : decode cX6_readsLock 10 = .ok (.iconst 0, 1) := by decide +kernel
theorem dX6_readsLock_11 : decode cX6_readsLock 11 = .ok (.iconst 0, 1) := by decide +kernel
theorem dX6_readsLock_12 : decode cX6_readsLock 12 = .ok (.invokevirtual 224, 3) := by decide +kernel
theorem dX6_readsLock_15 : decode cX6_readsLock 15 = .ok (.ifCond .eq 14, 3) := by decide +kernel
theorem dX6_readsLock_18 : decode cX6_readsLock 18 = .ok (.aload_n 0, 1) := by decide +kernel
theorem dX6_readsLock_19 : decode cX6_readsLock 19 = .ok (.getfield 48, 3) := by decide +kernel
theorem dX6_readsLock_22 : decode cX6_readsLock 22 = .ok (.iconst 0, 1) := by decide +kernel
theorem dX6_readsLock_23 : decode cX6_readsLock 23 = .ok (.iaload, 1) := by decide +kernel
theorem dX6_readsLock_24 : decode cX6_readsLock 24 = .ok (.bipush 8, 2) := by decide +kernel
theorem dX6_readsLock_26 : decode cX6_readsLock 26 = .ok (.if_icmp .ne 5, 3) := by decide +kernel
theorem dX6_readsLock_29 : decode cX6_readsLock 29 = .ok (.iconst 0, 1) := by decide +kernel
theorem dX6_readsLock_30 : decode cX6_readsLock 30 = .ok (.ireturn, 1) := by decide +kernel
theorem dX6_readsLock_31 : decode cX6_readsLock 31 = .ok (.aload_n 0, 1) := by decide +kernel
theorem dX6_readsLock_32 : decode cX6_readsLock 32 = .ok (.invokevirtual 221, 3) := by decide +kernel
theorem dX6_readsLock_35 : decode cX6_readsLock 35 = .ok (.aload_n 0, 1) := by decide +kernel
theorem dX6_readsLock_36 : decode cX6_readsLock 36 = .ok (.iconst 0, 1) := by decide +kernel
theorem dX6_readsLock_37 : decode cX6_readsLock 37 = .ok (.iconst 0, 1) := by decide +kernel
theorem dX6_readsLock_38 : decode cX6_readsLock 38 = .ok (.iconst 5, 1) := by decide +kernel
theorem dX6_readsLock_39 : decode cX6_readsLock 39 = .ok (.invokevirtual 228, 3) := by decide +kernel
theorem dX6_readsLock_42 : decode cX6_readsLock 42 = .ok (.ifCond .eq 24, 3) := by decide +kernel
theorem dX6_readsLock_45 : decode cX6_readsLock 45 = .ok (.aload_n 0, 1) := by decide +kernel
theorem dX6_readsLock_46 : decode cX6_readsLock 46 = .ok (.iconst 1, 1) := by decide +kernel
theorem dX6_readsLock_47 : decode cX6_readsLock 47 = .ok (.iconst 0, 1) := by decide +kernel
theorem dX6_readsLock_48 : decode cX6_readsLock 48 = .ok (.iconst 1, 1) := by decide +kernel
theorem dX6_readsLock_49 : decode cX6_readsLock 49 = .ok (.invokevirtual 228, 3) := by decide +kernel
theorem dX6_readsLock_52 : decode cX6_readsLock 52 = .ok (.ifCond .eq 14, 3) := by decide +kernel
theorem dX6_readsLock_55 : decode cX6_readsLock 55 = .ok (.aload_n 0, 1) := by decide +kernel
theorem dX6_readsLock_56 : decode cX6_readsLock 56 = .ok (.iconst 2, 1) := by decide +kernel
theorem dX6_readsLock_57 : decode cX6_readsLock 57 = .ok (.iconst 1, 1) := by decide +kernel
theorem dX6_readsLock_58 : decode cX6_readsLock 58 = .ok (.bipush 20, 2) := by decide +kernel
theorem dX6_readsLock_60 : decode cX6_readsLock 60 = .ok (.invokevirtual 228, 3) := by decide +kernel
theorem dX6_readsLock_63 : decode cX6_readsLock 63 = .ok (.ifCond .ne 5, 3) := by decide +kernel
theorem dX6_readsLock_66 : decode cX6_readsLock 66 = .ok (.iconst 0, 1) := by decide +kernel
theorem dX6_readsLock_67 : decode cX6_readsLock 67 = .ok (.ireturn, 1) := by decide +kernel
theorem dX6_readsLock_68 : decode cX6_readsLock 68 = .ok (.aload_n 0, 1) := by decide +kernel
theorem dX6_readsLock_69 : decode cX6_readsLock 69 = .ok (.getfield 48, 3) := by decide +kernel
theorem dX6_readsLock_72 : decode cX6_readsLock 72 = .ok (.aload_n 0, 1) := by decide +kernel
theorem dX6_readsLock_73 : decode cX6_readsLock 73 = .ok (.getfield 51, 3) := by decide +kernel
theorem dX6_readsLock_76 : decode cX6_readsLock 76 = .ok (.iconst 0, 1) := by decide +kernel
theorem dX6_readsLock_77 : decode cX6_readsLock 77 = .ok (.iaload, 1) := by decide +kernel
theorem dX6_readsLock_78 : decode cX6_readsLock 78 = .ok (.aload_n 0, 1) := by decide +kernel
theorem dX6_readsLock_79 : decode cX6_readsLock 79 = .ok (.getfield 51, 3) := by decide +kernel
theorem dX6_readsLock_82 : decode cX6_readsLock 82 = .ok (.iconst 1, 1) := by decide +kernel
theorem dX6_readsLock_83 : decode cX6_readsLock 83 = .ok (.iaload, 1) := by decide +kernel
theorem dX6_readsLock_84 : decode cX6_readsLock 84 = .ok (.aload_n 0, 1) := by decide +kernel
theorem dX6_readsLock_85 : decode cX6_readsLock 85 = .ok (.getfield 51, 3) := by decide +kernel
theorem dX6_readsLock_88 : decode cX6_readsLock 88 = .ok (.iconst 2, 1) := by decide +kernel
theorem dX6_readsLock_89 : decode cX6_readsLock 89 = .ok (.iaload, 1) := by decide +kernel
theorem dX6_readsLock_90 : decode cX6_readsLock 90 = .ok (.invokestatic 79, 3) := by decide +kernel
theorem dX6_readsLock_93 : decode cX6_readsLock 93 = .ok (.iconst 1, 1) := by decide +kernel
theorem dX6_readsLock_94 : decode cX6_readsLock 94 = .ok (.ireturn, 1) := by decide +kernel
set_option maxRecDepth 20000 in
theorem ggX6_read_X6_lookAt : GoodIn wsX6_read wsX6_lookAt := goodIn_r _ [9, 1, 10, 11, 12, 2, 13, 14, 15, 8, 16, 17, 18, 19, 20, 21, 22, 23, 24, 25, 26, 54, 55, 56, 57, 58, 59, 60, 61, 62, 63, 64, 65, 66, 67, 68, 69, 70, 71, 72, 73, 74, 75] (by decide +kernel) (by decide +kernel)
set_option maxRecDepth 20000 in
theorem gX6_read_X6_lookAt : GoodIn wsX6_read (wsV RX6 217 RX6 yX6_lookAt wsX6_lookAt) := goodIn_app (goodIn_of _ (by decide +kernel)) ggX6_read_X6_lookAt
set_option maxRecDepth 20000 in
theorem ggX6_read_X6_readsFirst : GoodIn wsX6_read wsX6_readsFirst := goodIn_r _ [30, 4, 31, 2, 32, 33, 34, 8, 35, 12, 11, 1, 36, 37, 38, 39, 5, 6, 7, 9, 10, 13, 14, 15, 16, 17, 18, 19, 20, 21, 22, 23, 24, 25, 26, 40, 41, 42, 43, 44, 45, 46, 54, 55, 56, 57, 58, 59, 60, 61, 62, 63, 64, 65, 66, 67, 68, 69, 70, 71, 72, 73, 74, 75] (by decide +kernel) (by decide +kernel)
set_option maxRecDepth 20000 in
theorem gX6_read_X6_readsFirst : GoodIn wsX6_read (wsV RX6 231 RX6 yX6_readsFirst wsX6_readsFirst) := goodIn_app (goodIn_of _ (by decide +kernel)) ggX6_read_X6_readsFirst
set_option maxRecDepth 20000 in
theorem ggX6_read_X6_goOn : GoodIn wsX6_read wsX6_goOn := goodIn_r _ [39, 1, 12, 5, 6, 7, 8, 9, 10, 11, 2, 13, 14, 15, 16, 17, 18, 19, 20, 21, 22, 23, 24, 25, 26, 54, 55, 56, 57, 58, 59, 60, 61, 62, 63, 64, 65, 66, 67, 68, 69, 70, 71, 72, 73, 74, 75] (by decide +kernel) (by decide +kernel)
set_option maxRecDepth 20000 in
theorem gX6_read_X6_goOn : GoodIn wsX6_read (wsV RX6 221 RX6 yX6_goOn wsX6_goOn) := goodIn_app (goodIn_of _ (by decide +kernel)) ggX6_read_X6_goOn
set_option maxRecDepth 20000 in
theorem ggX6_read_X6_readsLock : GoodIn wsX6_read wsX6_readsLock := goodIn_r _ [50, 4, 31, 32, 33, 34, 8, 35, 2, 12, 11, 1, 36, 37, 38, 39, 5, 6, 7, 9, 10, 13, 14, 15, 16, 17, 18, 19, 20, 21, 22, 23, 24, 25, 26, 40, 41, 42, 43, 51, 52, 53, 54, 55, 56, 57, 58, 59, 60, 61, 62, 63, 64, 65, 66, 67, 68, 69, 70, 71, 72, 73, 74, 75] (by decide +kernel) (by decide +kernel)
set_option maxRecDepth 20000 in
theorem gX6_read_X6_readsLock : GoodIn wsX6_read (wsV RX6 234 RX6 yX6_readsLock wsX6_readsLock) := goodIn_app (goodIn_of _ (by decide +kernel)) ggX6_read_X6_readsLock
theorem dX6_read_0 : decode cX6_read 0 = .ok (.aload_n 0, 1) := by decide +kernel
theorem dX6_read_1 : decode cX6_read 1 = .ok (.iconst 0, 1) := by decide +kernel
theorem dX6_read_2 : decode cX6_read 2 = .ok (.invokevirtual 217, 3) := by decide +kernel
theorem dX6_read_5 : decode cX6_read 5 = .ok (.aload_n 0, 1) := by decide +kernel
theorem dX6_read_6 : decode cX6_read 6 = .ok (.invokevirtual 231, 3) := by decide +kernel
theorem dX6_read_9 : decode cX6_read 9 = .ok (.ifCond .ne 11, 3) := by decide +kernel
theorem dX6_read_12 : decode cX6_read 12 = .ok (.bipush (-10), 2) := by decide +kernel
theorem dX6_read_14 : decode cX6_read 14 = .ok (.aload_n 0, 1) := by decide +kernel
theorem dX6_read_15 : decode cX6_read 15 = .ok (.getfield 199, 3) := by decide +kernel
theorem dX6_read_18 : decode cX6_read 18 = .ok (.isub, 1) := by decide +kernel
theorem dX6_read_19 : decode cX6_read 19 = .ok (.ireturn, 1) := by decide +kernel
theorem dX6_read_20 : decode cX6_read 20 = .ok (.aload_n 0, 1) := by decide +kernel
theorem dX6_read_21 : decode cX6_read 21 = .ok (.invokevirtual 221, 3) := by decide +kernel
theorem dX6_read_24 : decode cX6_read 24 = .ok (.iconst 1, 1) := by decide +kernel
theorem dX6_read_25 : decode cX6_read 25 = .ok (.istore_n 1, 1) := by decide +kernel
theorem dX6_read_26 : decode cX6_read 26 = .ok (.aload_n 0, 1) := by decide +kernel
theorem dX6_read_27 : decode cX6_read 27 = .ok (.getfield 205, 3) := by decide +kernel
theorem dX6_read_30 : decode cX6_read 30 = .ok (.ifCond .eq 36, 3) := by decide +kernel
theorem dX6_read_33 : decode cX6_read 33 = .ok (.aload_n 0, 1) := by decide +kernel
theorem dX6_read_34 : decode cX6_read 34 = .ok (.invokevirtual 234, 3) := by decide +kernel
theorem dX6_read_37 : decode cX6_read 37 = .ok (.ifCond .eq 11, 3) := by decide +kernel
theorem dX6_read_40 : decode cX6_read 40 = .ok (.aload_n 0, 1) := by decide +kernel
theorem dX6_read_41 : decode cX6_read 41 = .ok (.getfield 205, 3) := by decide +kernel
theorem dX6_read_44 : decode cX6_read 44 = .ok (.iconst 3, 1) := by decide +kernel
theorem dX6_read_45 : decode cX6_read 45 = .ok (.if_icmp .eq 11, 3) := by decide +kernel
theorem dX6_read_48 : decode cX6_read 48 = .ok (.bipush (-10), 2) := by decide +kernel
theorem dX6_read_50 : decode cX6_read 50 = .ok (.aload_n 0, 1) := by decide +kernel
theorem dX6_read_51 : decode cX6_read 51 = .ok (.getfield 199, 3) := by decide +kernel
theorem dX6_read_54 : decode cX6_read 54 = .ok (.isub, 1) := by decide +kernel
theorem dX6_read_55 : decode cX6_read 55 = .ok (.ireturn, 1) := by decide +kernel
theorem dX6_read_56 : decode cX6_read 56 = .ok (.aload_n 0, 1) := by decide +kernel
theorem dX6_read_57 : decode cX6_read 57 = .ok (.invokevirtual 221, 3) := by decide +kernel
theorem dX6_read_60 : decode cX6_read 60 = .ok (.iinc 1 1, 3) := by decide +kernel
theorem dX6_read_63 : decode cX6_read 63 = .ok (.goto (-37), 3) := by decide +kernel
theorem dX6_read_66 : decode cX6_read 66 = .ok (.iconst 0, 1) := by decide +kernel
theorem dX6_read_67 : decode cX6_read 67 = .ok (.istore_n 2, 1) := by decide +kernel
theorem dX6_read_68 : decode cX6_read 68 = .ok (.iload_n 2, 1) := by decide +kernel
theorem dX6_read_69 : decode cX6_read 69 = .ok (.bipush 42, 2) := by decide +kernel
theorem dX6_read_71 : decode cX6_read 71 = .ok (.if_icmp .ge 21, 3) := by decide +kernel
theorem dX6_read_74 : decode cX6_read 74 = .ok (.aload_n 0, 1) := by decide +kernel
theorem dX6_read_75 : decode cX6_read 75 = .ok (.getfield 7, 3) := by decide +kernel
theorem dX6_read_78 : decode cX6_read 78 = .ok (.iload_n 2, 1) := by decide +kernel
theorem dX6_read_79 : decode cX6_read 79 = .ok (.aload_n 0, 1) := by decide +kernel
theorem dX6_read_80 : decode cX6_read 80 = .ok (.getfield 48, 3) := by decide +kernel
theorem dX6_read_83 : decode cX6_read 83 = .ok (.iload_n 2, 1) := by decide +kernel
theorem dX6_read_84 : decode cX6_read 84 = .ok (.iaload, 1) := by decide +kernel
theorem dX6_read_85 : decode cX6_read 85 = .ok (.iastore, 1) := by decide +kernel
theorem dX6_read_86 : decode cX6_read 86 = .ok (.iinc 2 1, 3) := by decide +kernel
theorem dX6_read_89 : decode cX6_read 89 = .ok (.goto (-21), 3) := by decide +kernel
theorem dX6_read_92 : decode cX6_read 92 = .ok (.iload_n 1, 1) := by decide +kernel
theorem dX6_read_93 : decode cX6_read 93 = .ok (.ireturn, 1) := by decide +kernel
set_option maxRecDepth 20000 in
theorem ggX6_part_X6_bad : GoodIn wsX6_part wsX6_bad := goodIn_r _ [7, 8, 9, 10, 11, 12, 13, 14, 15, 16, 17, 18, 19, 20, 21, 22, 23, 24, 25, 26, 27, 28, 29, 30] (by decide +kernel) (by decide +kernel)
set_option maxRecDepth 20000 in
theorem gX6_part_X6_bad : GoodIn wsX6_part (wsV RX6 68 RX6 yX6_bad wsX6_bad) := goodIn_app (goodIn_of _ (by decide +kernel)) ggX6_part_X6_bad
theorem dX6_part_0 : decode cX6_part 0 = .ok (.iload_n 1, 1) := by decide +kernel
theorem dX6_part_1 : decode cX6_part 1 = .ok (.ifCond .ne 10, 3) := by decide +kernel
theorem dX6_part_4 : decode cX6_part 4 = .ok (.aload_n 0, 1) := by decide +kernel
theorem dX6_part_5 : decode cX6_part 5 = .ok (.getfield 167, 3) := by decide +kernel
theorem dX6_part_8 : decode cX6_part 8 = .ok (.goto 22, 3) := by decide +kernel
theorem dX6_part_11 : decode cX6_part 11 = .ok (.iload_n 1, 1) := by decide +kernel
theorem dX6_part_12 : decode cX6_part 12 = .ok (.iconst 1, 1) := by decide +kernel
theorem dX6_part_13 : decode cX6_part 13 = .ok (.if_icmp .ne 10, 3) := by decide +kernel
theorem dX6_part_16 : decode cX6_part 16 = .ok (.aload_n 0, 1) := by decide +kernel
theorem dX6_part_17 : decode cX6_part 17 = .ok (.getfield 23, 3) := by decide +kernel
theorem dX6_part_20 : decode cX6_part 20 = .ok (.goto 10, 3) := by decide +kernel
theorem dX6_part_23 : decode cX6_part 23 = .ok (.aload_n 0, 1) := by decide +kernel
theorem dX6_part_24 : decode cX6_part 24 = .ok (.bipush (-2), 2) := by decide +kernel
theorem dX6_part_26 : decode cX6_part 26 = .ok (.invokevirtual 68, 3) := by decide +kernel
theorem dX6_part_29 : decode cX6_part 29 = .ok (.i2l, 1) := by decide +kernel
theorem dX6_part_30 : decode cX6_part 30 = .ok (.lreturn, 1) := by decide +kernel
set_option maxRecDepth 20000 in
theorem ggX6_image_X6_in : GoodIn wsX6_image wsX6_in := goodIn_r _ [7] (by decide +kernel) (by decide +kernel)
set_option maxRecDepth 20000 in
theorem gX6_image_X6_in : GoodIn wsX6_image (va_wsS RX6 62 yX6_in wsX6_in) := goodIn_app (goodIn_of _ (by decide +kernel)) ggX6_image_X6_in
set_option maxRecDepth 20000 in
theorem ggX6_image_X6_bad : GoodIn wsX6_image wsX6_bad := goodIn_r _ [11, 12, 13, 14, 15, 16, 17, 18, 19, 20, 21, 22, 23, 24, 25, 26, 27, 28, 29, 30, 31, 32, 33, 34] (by decide +kernel) (by decide +kernel)
set_option maxRecDepth 20000 in
theorem gX6_image_X6_bad : GoodIn wsX6_image (wsV RX6 68 RX6 yX6_bad wsX6_bad) := goodIn_app (goodIn_of _ (by decide +kernel)) ggX6_image_X6_bad
theorem dX6_image_0 : decode cX6_image 0 = .ok (.iload_n 1, 1) := by decide +kernel
theorem dX6_image_1 : decode cX6_image 1 = .ok (.i2l, 1) := by decide +kernel
theorem dX6_image_2 : decode cX6_image 2 = .ok (.lconst 0, 1) := by decide +kernel
theorem dX6_image_3 : decode cX6_image 3 = .ok (.lconst 1, 1) := by decide +kernel
theorem dX6_image_4 : decode cX6_image 4 = .ok (.invokestatic 62, 3) := by decide +kernel
theorem dX6_image_7 : decode cX6_image 7 = .ok (.ifCond .ne 10, 3) := by decide +kernel
theorem dX6_image_10 : decode cX6_image 10 = .ok (.aload_n 0, 1) := by decide +kernel
theorem dX6_image_11 : decode cX6_image 11 = .ok (.bipush (-2), 2) := by decide +kernel
theorem dX6_image_13 : decode cX6_image 13 = .ok (.invokevirtual 68, 3) := by decide +kernel
theorem dX6_image_16 : decode cX6_image 16 = .ok (.ireturn, 1) := by decide +kernel
theorem dX6_image_17 : decode cX6_image 17 = .ok (.iconst 0, 1) := by decide +kernel
theorem dX6_image_18 : decode cX6_image 18 = .ok (.istore_n 2, 1) := by decide +kernel
theorem dX6_image_19 : decode cX6_image 19 = .ok (.iload_n 2, 1) := by decide +kernel
theorem dX6_image_20 : decode cX6_image 20 = .ok (.bipush 122, 2) := by decide +kernel
theorem dX6_image_22 : decode cX6_image 22 = .ok (.if_icmp .ge 26, 3) := by decide +kernel
theorem dX6_image_25 : decode cX6_image 25 = .ok (.aload_n 0, 1) := by decide +kernel
theorem dX6_image_26 : decode cX6_image 26 = .ok (.getfield 13, 3) := by decide +kernel
theorem dX6_image_29 : decode cX6_image 29 = .ok (.bipush 122, 2) := by decide +kernel
theorem dX6_image_31 : decode cX6_image 31 = .ok (.iload_n 1, 1) := by decide +kernel
theorem dX6_image_32 : decode cX6_image 32 = .ok (.imul, 1) := by decide +kernel
theorem dX6_image_33 : decode cX6_image 33 = .ok (.iload_n 2, 1) := by decide +kernel
theorem dX6_image_34 : decode cX6_image 34 = .ok (.iadd, 1) := by decide +kernel
theorem dX6_image_35 : decode cX6_image 35 = .ok (.aload_n 0, 1) := by decide +kernel
theorem dX6_image_36 : decode cX6_image 36 = .ok (.getfield 7, 3) := by decide +kernel
theorem dX6_image_39 : decode cX6_image 39 = .ok (.iload_n 2, 1) := by decide +kernel
theorem dX6_image_40 : decode cX6_image 40 = .ok (.iaload, 1) := by decide +kernel
theorem dX6_image_41 : decode cX6_image 41 = .ok (.iastore, 1) := by decide +kernel
theorem dX6_image_42 : decode cX6_image 42 = .ok (.iinc 2 1, 3) := by decide +kernel
theorem dX6_image_45 : decode cX6_image 45 = .ok (.goto (-26), 3) := by decide +kernel
theorem dX6_image_48 : decode cX6_image 48 = .ok (.aload_n 0, 1) := by decide +kernel
theorem dX6_image_49 : decode cX6_image 49 = .ok (.getfield 16, 3) := by decide +kernel
theorem dX6_image_52 : decode cX6_image 52 = .ok (.iload_n 1, 1) := by decide +kernel
theorem dX6_image_53 : decode cX6_image 53 = .ok (.iconst 1, 1) := by decide +kernel
theorem dX6_image_54 : decode cX6_image 54 = .ok (.bastore, 1) := by decide +kernel
theorem dX6_image_55 : decode cX6_image 55 = .ok (.iconst 1, 1) := by decide +kernel
theorem dX6_image_56 : decode cX6_image 56 = .ok (.ireturn, 1) := by decide +kernel
set_option maxRecDepth 20000 in
theorem ggX6_from_X6_in : GoodIn wsX6_from wsX6_in := goodIn_r _ [7] (by decide +kernel) (by decide +kernel)
set_option maxRecDepth 20000 in
theorem gX6_from_X6_in : GoodIn wsX6_from (va_wsS RX6 62 yX6_in wsX6_in) := goodIn_app (goodIn_of _ (by decide +kernel)) ggX6_from_X6_in
set_option maxRecDepth 20000 in
theorem ggX6_from_X6_bad : GoodIn wsX6_from wsX6_bad := goodIn_r _ [11, 12, 17, 18, 19, 20, 21, 22, 23, 24, 25, 26, 27, 28, 29, 30, 31, 32, 33, 34, 35, 36, 37, 38] (by decide +kernel) (by decide +kernel)
set_option maxRecDepth 20000 in
theorem gX6_from_X6_bad : GoodIn wsX6_from (wsV RX6 68 RX6 yX6_bad wsX6_bad) := goodIn_app (goodIn_of _ (by decide +kernel)) ggX6_from_X6_bad
set_option maxRecDepth 20000 in
theorem ggX6_from_X6_no : GoodIn wsX6_from wsX6_no := goodIn_r _ [16, 12, 17, 18, 19, 20, 21, 22, 23, 24, 25, 26, 27, 28, 29, 30, 31, 32, 33, 34, 35, 36, 37, 38] (by decide +kernel) (by decide +kernel)
set_option maxRecDepth 20000 in
theorem gX6_from_X6_no : GoodIn wsX6_from (wsV RX6 94 RX6 yX6_no wsX6_no) := goodIn_app (goodIn_of _ (by decide +kernel)) ggX6_from_X6_no
theorem dX6_from_0 : decode cX6_from 0 = .ok (.iload_n 1, 1) := by decide +kernel
theorem dX6_from_1 : decode cX6_from 1 = .ok (.i2l, 1) := by decide +kernel
theorem dX6_from_2 : decode cX6_from 2 = .ok (.lconst 0, 1) := by decide +kernel
theorem dX6_from_3 : decode cX6_from 3 = .ok (.lconst 1, 1) := by decide +kernel
theorem dX6_from_4 : decode cX6_from 4 = .ok (.invokestatic 62, 3) := by decide +kernel
theorem dX6_from_7 : decode cX6_from 7 = .ok (.ifCond .ne 10, 3) := by decide +kernel
theorem dX6_from_10 : decode cX6_from 10 = .ok (.aload_n 0, 1) := by decide +kernel
theorem dX6_from_11 : decode cX6_from 11 = .ok (.bipush (-2), 2) := by decide +kernel
theorem dX6_from_13 : decode cX6_from 13 = .ok (.invokevirtual 68, 3) := by decide +kernel
theorem dX6_from_16 : decode cX6_from 16 = .ok (.ireturn, 1) := by decide +kernel
theorem dX6_from_17 : decode cX6_from 17 = .ok (.aload_n 0, 1) := by decide +kernel
theorem dX6_from_18 : decode cX6_from 18 = .ok (.getfield 16, 3) := by decide +kernel
theorem dX6_from_21 : decode cX6_from 21 = .ok (.iload_n 1, 1) := by decide +kernel
theorem dX6_from_22 : decode cX6_from 22 = .ok (.baload, 1) := by decide +kernel
theorem dX6_from_23 : decode cX6_from 23 = .ok (.ifCond .ne 8, 3) := by decide +kernel
theorem dX6_from_26 : decode cX6_from 26 = .ok (.aload_n 0, 1) := by decide +kernel
theorem dX6_from_27 : decode cX6_from 27 = .ok (.invokevirtual 94, 3) := by decide +kernel
theorem dX6_from_30 : decode cX6_from 30 = .ok (.ireturn, 1) := by decide +kernel
theorem dX6_from_31 : decode cX6_from 31 = .ok (.iconst 0, 1) := by decide +kernel
theorem dX6_from_32 : decode cX6_from 32 = .ok (.istore_n 2, 1) := by decide +kernel
theorem dX6_from_33 : decode cX6_from 33 = .ok (.iload_n 2, 1) := by decide +kernel
theorem dX6_from_34 : decode cX6_from 34 = .ok (.bipush 122, 2) := by decide +kernel
theorem dX6_from_36 : decode cX6_from 36 = .ok (.if_icmp .ge 26, 3) := by decide +kernel
theorem dX6_from_39 : decode cX6_from 39 = .ok (.aload_n 0, 1) := by decide +kernel
theorem dX6_from_40 : decode cX6_from 40 = .ok (.getfield 7, 3) := by decide +kernel
theorem dX6_from_43 : decode cX6_from 43 = .ok (.iload_n 2, 1) := by decide +kernel
theorem dX6_from_44 : decode cX6_from 44 = .ok (.aload_n 0, 1) := by decide +kernel
theorem dX6_from_45 : decode cX6_from 45 = .ok (.getfield 13, 3) := by decide +kernel
theorem dX6_from_48 : decode cX6_from 48 = .ok (.bipush 122, 2) := by decide +kernel
theorem dX6_from_50 : decode cX6_from 50 = .ok (.iload_n 1, 1) := by decide +kernel
theorem dX6_from_51 : decode cX6_from 51 = .ok (.imul, 1) := by decide +kernel
theorem dX6_from_52 : decode cX6_from 52 = .ok (.iload_n 2, 1) := by decide +kernel
theorem dX6_from_53 : decode cX6_from 53 = .ok (.iadd, 1) := by decide +kernel
theorem dX6_from_54 : decode cX6_from 54 = .ok (.iaload, 1) := by decide +kernel
theorem dX6_from_55 : decode cX6_from 55 = .ok (.iastore, 1) := by decide +kernel
theorem dX6_from_56 : decode cX6_from 56 = .ok (.iinc 2 1, 3) := by decide +kernel
theorem dX6_from_59 : decode cX6_from 59 = .ok (.goto (-26), 3) := by decide +kernel
theorem dX6_from_62 : decode cX6_from 62 = .ok (.iconst 1, 1) := by decide +kernel
theorem dX6_from_63 : decode cX6_from 63 = .ok (.ireturn, 1) := by decide +kernel
set_option maxRecDepth 20000 in
theorem ggX6_status_X6_in : GoodIn wsX6_status wsX6_in := goodIn_r _ [6] (by decide +kernel) (by decide +kernel)
set_option maxRecDepth 20000 in
theorem gX6_status_X6_in : GoodIn wsX6_status (va_wsS RX6 62 yX6_in wsX6_in) := goodIn_app (goodIn_of _ (by decide +kernel)) ggX6_status_X6_in
set_option maxRecDepth 20000 in
theorem ggX6_status_X6_bad : GoodIn wsX6_status wsX6_bad := goodIn_r _ [10, 2, 11, 12, 13, 14, 15, 16, 17, 18, 19, 20, 21, 22, 23, 24, 25, 26, 27, 28, 29, 30, 31, 32] (by decide +kernel) (by decide +kernel)
set_option maxRecDepth 20000 in
theorem gX6_status_X6_bad : GoodIn wsX6_status (wsV RX6 68 RX6 yX6_bad wsX6_bad) := goodIn_app (goodIn_of _ (by decide +kernel)) ggX6_status_X6_bad
theorem dX6_status_0 : decode cX6_status 0 = .ok (.iload_n 1, 1) := by decide +kernel
theorem dX6_status_1 : decode cX6_status 1 = .ok (.i2l, 1) := by decide +kernel
theorem dX6_status_2 : decode cX6_status 2 = .ok (.lconst 0, 1) := by decide +kernel
theorem dX6_status_3 : decode cX6_status 3 = .ok (.ldc2_w 122, 3) := by decide +kernel
theorem dX6_status_6 : decode cX6_status 6 = .ok (.invokestatic 62, 3) := by decide +kernel
theorem dX6_status_9 : decode cX6_status 9 = .ok (.ifCond .eq 12, 3) := by decide +kernel
theorem dX6_status_12 : decode cX6_status 12 = .ok (.aload_n 0, 1) := by decide +kernel
theorem dX6_status_13 : decode cX6_status 13 = .ok (.getfield 20, 3) := by decide +kernel
theorem dX6_status_16 : decode cX6_status 16 = .ok (.iload_n 1, 1) := by decide +kernel
theorem dX6_status_17 : decode cX6_status 17 = .ok (.iaload, 1) := by decide +kernel
theorem dX6_status_18 : decode cX6_status 18 = .ok (.goto 8, 3) := by decide +kernel
theorem dX6_status_21 : decode cX6_status 21 = .ok (.aload_n 0, 1) := by decide +kernel
theorem dX6_status_22 : decode cX6_status 22 = .ok (.iconst (-1), 1) := by decide +kernel
theorem dX6_status_23 : decode cX6_status 23 = .ok (.invokevirtual 68, 3) := by decide +kernel
theorem dX6_status_26 : decode cX6_status 26 = .ok (.ireturn, 1) := by decide +kernel
theorem dX6_counted_0 : decode cX6_counted 0 = .ok (.iload_n 1, 1) := by decide +kernel
theorem dX6_counted_1 : decode cX6_counted 1 = .ok (.bipush 6, 2) := by decide +kernel
theorem dX6_counted_3 : decode cX6_counted 3 = .ok (.if_icmp .ge 12, 3) := by decide +kernel
theorem dX6_counted_6 : decode cX6_counted 6 = .ok (.aload_n 0, 1) := by decide +kernel
theorem dX6_counted_7 : decode cX6_counted 7 = .ok (.getfield 7, 3) := by decide +kernel
theorem dX6_counted_10 : decode cX6_counted 10 = .ok (.iload_n 1, 1) := by decide +kernel
theorem dX6_counted_11 : decode cX6_counted 11 = .ok (.iaload, 1) := by decide +kernel
theorem dX6_counted_12 : decode cX6_counted 12 = .ok (.goto 7, 3) := by decide +kernel
theorem dX6_counted_15 : decode cX6_counted 15 = .ok (.aload_n 0, 1) := by decide +kernel
theorem dX6_counted_16 : decode cX6_counted 16 = .ok (.getfield 188, 3) := by decide +kernel
theorem dX6_counted_19 : decode cX6_counted 19 = .ok (.ireturn, 1) := by decide +kernel
set_option maxRecDepth 20000 in
theorem ggX6_count_X6_in : GoodIn wsX6_count wsX6_in := goodIn_r _ [5] (by decide +kernel) (by decide +kernel)
set_option maxRecDepth 20000 in
theorem gX6_count_X6_in : GoodIn wsX6_count (va_wsS RX6 62 yX6_in wsX6_in) := goodIn_app (goodIn_of _ (by decide +kernel)) ggX6_count_X6_in
set_option maxRecDepth 20000 in
theorem ggX6_count_X6_counted : GoodIn wsX6_count wsX6_counted := goodIn_r _ [9, 10, 11, 17, 18, 19, 20, 21, 22, 23, 24, 25, 26, 27, 28, 29, 30, 31, 32, 33, 34, 35, 36, 37, 38] (by decide +kernel) (by decide +kernel)
set_option maxRecDepth 20000 in
theorem gX6_count_X6_counted : GoodIn wsX6_count (wsV RX6 239 RX6 yX6_counted wsX6_counted) := goodIn_app (goodIn_of _ (by decide +kernel)) ggX6_count_X6_counted
set_option maxRecDepth 20000 in
theorem ggX6_count_X6_bad : GoodIn wsX6_count wsX6_bad := goodIn_r _ [15, 16, 17, 18, 19, 20, 21, 22, 23, 24, 25, 26, 27, 28, 29, 30, 31, 32, 33, 34, 35, 36, 37, 38] (by decide +kernel) (by decide +kernel)
set_option maxRecDepth 20000 in
theorem gX6_count_X6_bad : GoodIn wsX6_count (wsV RX6 68 RX6 yX6_bad wsX6_bad) := goodIn_app (goodIn_of _ (by decide +kernel)) ggX6_count_X6_bad
theorem dX6_count_0 : decode cX6_count 0 = .ok (.iload_n 1, 1) := by decide +kernel
theorem dX6_count_1 : decode cX6_count 1 = .ok (.i2l, 1) := by decide +kernel
theorem dX6_count_2 : decode cX6_count 2 = .ok (.lconst 0, 1) := by decide +kernel
theorem dX6_count_3 : decode cX6_count 3 = .ok (.ldc2_w 237, 3) := by decide +kernel
theorem dX6_count_6 : decode cX6_count 6 = .ok (.invokestatic 62, 3) := by decide +kernel
theorem dX6_count_9 : decode cX6_count 9 = .ok (.ifCond .eq 11, 3) := by decide +kernel
theorem dX6_count_12 : decode cX6_count 12 = .ok (.aload_n 0, 1) := by decide +kernel
theorem dX6_count_13 : decode cX6_count 13 = .ok (.iload_n 1, 1) := by decide +kernel
theorem dX6_count_14 : decode cX6_count 14 = .ok (.invokevirtual 239, 3) := by decide +kernel
theorem dX6_count_17 : decode cX6_count 17 = .ok (.goto 9, 3) := by decide +kernel
theorem dX6_count_20 : decode cX6_count 20 = .ok (.aload_n 0, 1) := by decide +kernel
theorem dX6_count_21 : decode cX6_count 21 = .ok (.bipush (-2), 2) := by decide +kernel
theorem dX6_count_23 : decode cX6_count 23 = .ok (.invokevirtual 68, 3) := by decide +kernel
theorem dX6_count_26 : decode cX6_count 26 = .ok (.ireturn, 1) := by decide +kernel
theorem dX6_sums_0 : decode cX6_sums 0 = .ok (.lload_n 1, 1) := by decide +kernel
theorem dX6_sums_1 : decode cX6_sums 1 = .ok (.lstore 5, 2) := by decide +kernel
theorem dX6_sums_3 : decode cX6_sums 3 = .ok (.iconst 0, 1) := by decide +kernel
theorem dX6_sums_4 : decode cX6_sums 4 = .ok (.istore 7, 2) := by decide +kernel
theorem dX6_sums_6 : decode cX6_sums 6 = .ok (.iload 7, 2) := by decide +kernel
theorem dX6_sums_8 : decode cX6_sums 8 = .ok (.iload 4, 2) := by decide +kernel
theorem dX6_sums_10 : decode cX6_sums 10 = .ok (.if_icmp .ge 28, 3) := by decide +kernel
theorem dX6_sums_13 : decode cX6_sums 13 = .ok (.ldc2_w 242, 3) := by decide +kernel
theorem dX6_sums_16 : decode cX6_sums 16 = .ok (.lload 5, 2) := by decide +kernel
theorem dX6_sums_18 : decode cX6_sums 18 = .ok (.lmul, 1) := by decide +kernel
theorem dX6_sums_19 : decode cX6_sums 19 = .ok (.aload_n 0, 1) := by decide +kernel
theorem dX6_sums_20 : decode cX6_sums 20 = .ok (.getfield 7, 3) := by decide +kernel
theorem dX6_sums_23 : decode cX6_sums 23 = .ok (.iload_n 3, 1) := by decide +kernel
theorem dX6_sums_24 : decode cX6_sums 24 = .ok (.iload 7, 2) := by decide +kernel
theorem dX6_sums_26 : decode cX6_sums 26 = .ok (.iadd, 1) := by decide +kernel
theorem dX6_sums_27 : decode cX6_sums 27 = .ok (.iaload, 1) := by decide +kernel
theorem dX6_sums_28 : decode cX6_sums 28 = .ok (.i2l, 1) := by decide +kernel
theorem dX6_sums_29 : decode cX6_sums 29 = .ok (.ladd, 1) := by decide +kernel
theorem dX6_sums_30 : decode cX6_sums 30 = .ok (.lstore 5, 2) := by decide +kernel
theorem dX6_sums_32 : decode cX6_sums 32 = .ok (.iinc 7 1, 3) := by decide +kernel
theorem dX6_sums_35 : decode cX6_sums 35 = .ok (.goto (-29), 3) := by decide +kernel
theorem dX6_sums_38 : decode cX6_sums 38 = .ok (.lload 5, 2) := by decide +kernel
theorem dX6_sums_40 : decode cX6_sums 40 = .ok (.lreturn, 1) := by decide +kernel
set_option maxRecDepth 20000 in
theorem ggX6_digest_X6_counted : GoodIn wsX6_digest wsX6_counted := goodIn_r _ [10, 3, 11, 20, 21, 22, 23, 24, 25, 26, 27, 28, 29, 30, 31, 32, 33, 34, 35, 36, 37, 38, 39, 40, 41] (by decide +kernel) (by decide +kernel)
set_option maxRecDepth 20000 in
theorem gX6_digest_X6_counted : GoodIn wsX6_digest (wsV RX6 239 RX6 yX6_counted wsX6_counted) := goodIn_app (goodIn_of _ (by decide +kernel)) ggX6_digest_X6_counted
set_option maxRecDepth 20000 in
theorem ggX6_digest_X6_locks : GoodIn wsX6_digest wsX6_locks := goodIn_r _ [15, 3, 20, 21, 22, 23, 24, 25, 26, 27, 28, 29, 30, 31, 32, 33, 34, 35, 36, 37, 38, 39, 40, 41] (by decide +kernel) (by decide +kernel)
set_option maxRecDepth 20000 in
theorem gX6_digest_X6_locks : GoodIn wsX6_digest (wsV RX6 58 RX6 yX6_locks wsX6_locks) := goodIn_app (goodIn_of _ (by decide +kernel)) ggX6_digest_X6_locks
set_option maxRecDepth 20000 in
theorem ggX6_digest_X6_sums : GoodIn wsX6_digest wsX6_sums := goodIn_r _ [19, 2, 3, 20, 21, 22, 23, 24, 25, 26, 27, 28, 29, 30, 31, 32, 33, 34, 35, 36, 37, 38, 39, 40, 41] (by decide +kernel) (by decide +kernel)
set_option maxRecDepth 20000 in
theorem gX6_digest_X6_sums : GoodIn wsX6_digest (wsV RX6 246 RX6 yX6_sums wsX6_sums) := goodIn_app (goodIn_of _ (by decide +kernel)) ggX6_digest_X6_sums
theorem dX6_digest_0 : decode cX6_digest 0 = .ok (.ldc2_w 244, 3) := by decide +kernel
theorem dX6_digest_3 : decode cX6_digest 3 = .ok (.lstore_n 1, 1) := by decide +kernel
theorem dX6_digest_4 : decode cX6_digest 4 = .ok (.iconst 0, 1) := by decide +kernel
theorem dX6_digest_5 : decode cX6_digest 5 = .ok (.istore_n 3, 1) := by decide +kernel
theorem dX6_digest_6 : decode cX6_digest 6 = .ok (.iload_n 3, 1) := by decide +kernel
theorem dX6_digest_7 : decode cX6_digest 7 = .ok (.bipush 7, 2) := by decide +kernel
theorem dX6_digest_9 : decode cX6_digest 9 = .ok (.if_icmp .ge 22, 3) := by decide +kernel
theorem dX6_digest_12 : decode cX6_digest 12 = .ok (.ldc2_w 242, 3) := by decide +kernel
theorem dX6_digest_15 : decode cX6_digest 15 = .ok (.lload_n 1, 1) := by decide +kernel
theorem dX6_digest_16 : decode cX6_digest 16 = .ok (.lmul, 1) := by decide +kernel
theorem dX6_digest_17 : decode cX6_digest 17 = .ok (.aload_n 0, 1) := by decide +kernel
theorem dX6_digest_18 : decode cX6_digest 18 = .ok (.iload_n 3, 1) := by decide +kernel
theorem dX6_digest_19 : decode cX6_digest 19 = .ok (.invokevirtual 239, 3) := by decide +kernel
theorem dX6_digest_22 : decode cX6_digest 22 = .ok (.i2l, 1) := by decide +kernel
theorem dX6_digest_23 : decode cX6_digest 23 = .ok (.ladd, 1) := by decide +kernel
theorem dX6_digest_24 : decode cX6_digest 24 = .ok (.lstore_n 1, 1) := by decide +kernel
theorem dX6_digest_25 : decode cX6_digest 25 = .ok (.iinc 3 1, 3) := by decide +kernel
theorem dX6_digest_28 : decode cX6_digest 28 = .ok (.goto (-22), 3) := by decide +kernel
theorem dX6_digest_31 : decode cX6_digest 31 = .ok (.aload_n 0, 1) := by decide +kernel
theorem dX6_digest_32 : decode cX6_digest 32 = .ok (.lload_n 1, 1) := by decide +kernel
theorem dX6_digest_33 : decode cX6_digest 33 = .ok (.bipush 6, 2) := by decide +kernel
theorem dX6_digest_35 : decode cX6_digest 35 = .ok (.iconst 3, 1) := by decide +kernel
theorem dX6_digest_36 : decode cX6_digest 36 = .ok (.aload_n 0, 1) := by decide +kernel
theorem dX6_digest_37 : decode cX6_digest 37 = .ok (.invokevirtual 58, 3) := by decide +kernel
theorem dX6_digest_40 : decode cX6_digest 40 = .ok (.imul, 1) := by decide +kernel
theorem dX6_digest_41 : decode cX6_digest 41 = .ok (.invokevirtual 246, 3) := by decide +kernel
theorem dX6_digest_44 : decode cX6_digest 44 = .ok (.lstore_n 1, 1) := by decide +kernel
theorem dX6_digest_45 : decode cX6_digest 45 = .ok (.aload_n 0, 1) := by decide +kernel
theorem dX6_digest_46 : decode cX6_digest 46 = .ok (.lload_n 1, 1) := by decide +kernel
theorem dX6_digest_47 : decode cX6_digest 47 = .ok (.bipush 30, 2) := by decide +kernel
theorem dX6_digest_49 : decode cX6_digest 49 = .ok (.iconst 2, 1) := by decide +kernel
theorem dX6_digest_50 : decode cX6_digest 50 = .ok (.aload_n 0, 1) := by decide +kernel
theorem dX6_digest_51 : decode cX6_digest 51 = .ok (.getfield 7, 3) := by decide +kernel
theorem dX6_digest_54 : decode cX6_digest 54 = .ok (.iconst 4, 1) := by decide +kernel
theorem dX6_digest_55 : decode cX6_digest 55 = .ok (.iaload, 1) := by decide +kernel
theorem dX6_digest_56 : decode cX6_digest 56 = .ok (.imul, 1) := by decide +kernel
theorem dX6_digest_57 : decode cX6_digest 57 = .ok (.invokevirtual 246, 3) := by decide +kernel
theorem dX6_digest_60 : decode cX6_digest 60 = .ok (.lstore_n 1, 1) := by decide +kernel
theorem dX6_digest_61 : decode cX6_digest 61 = .ok (.ldc2_w 242, 3) := by decide +kernel
theorem dX6_digest_64 : decode cX6_digest 64 = .ok (.ldc2_w 242, 3) := by decide +kernel
theorem dX6_digest_67 : decode cX6_digest 67 = .ok (.lload_n 1, 1) := by decide +kernel
theorem dX6_digest_68 : decode cX6_digest 68 = .ok (.lmul, 1) := by decide +kernel
theorem dX6_digest_69 : decode cX6_digest 69 = .ok (.aload_n 0, 1) := by decide +kernel
theorem dX6_digest_70 : decode cX6_digest 70 = .ok (.getfield 167, 3) := by decide +kernel
theorem dX6_digest_73 : decode cX6_digest 73 = .ok (.ladd, 1) := by decide +kernel
theorem dX6_digest_74 : decode cX6_digest 74 = .ok (.lmul, 1) := by decide +kernel
theorem dX6_digest_75 : decode cX6_digest 75 = .ok (.aload_n 0, 1) := by decide +kernel
theorem dX6_digest_76 : decode cX6_digest 76 = .ok (.getfield 23, 3) := by decide +kernel
theorem dX6_digest_79 : decode cX6_digest 79 = .ok (.ladd, 1) := by decide +kernel
theorem dX6_digest_80 : decode cX6_digest 80 = .ok (.lreturn, 1) := by decide +kernel
