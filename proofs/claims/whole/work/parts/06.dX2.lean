theorem dX2_init_0 : decode cX2_init 0 = .ok (.aload_n 0, 1) := by decide +kernel
theorem dX2_init_1 : decode cX2_init 1 = .ok (.invokespecial 3, 3) := by decide +kernel
theorem dX2_init_4 : decode cX2_init 4 = .ok (.aload_n 0, 1) := by decide +kernel
theorem dX2_init_5 : decode cX2_init 5 = .ok (.iconst 0, 1) := by decide +kernel
theorem dX2_init_6 : decode cX2_init 6 = .ok (.putfield 9, 3) := by decide +kernel
theorem dX2_init_9 : decode cX2_init 9 = .ok (.aload_n 0, 1) := by decide +kernel
theorem dX2_init_10 : decode cX2_init 10 = .ok (.bipush 120, 2) := by decide +kernel
theorem dX2_init_12 : decode cX2_init 12 = .ok (.newarray .int, 2) := by decide +kernel
theorem dX2_init_14 : decode cX2_init 14 = .ok (.putfield 15, 3) := by decide +kernel
theorem dX2_init_17 : decode cX2_init 17 = .ok (.aload_n 0, 1) := by decide +kernel
theorem dX2_init_18 : decode cX2_init 18 = .ok (.bipush 120, 2) := by decide +kernel
theorem dX2_init_20 : decode cX2_init 20 = .ok (.newarray .int, 2) := by decide +kernel
theorem dX2_init_22 : decode cX2_init 22 = .ok (.putfield 19, 3) := by decide +kernel
theorem dX2_init_25 : decode cX2_init 25 = .ok (.aload_n 0, 1) := by decide +kernel
theorem dX2_init_26 : decode cX2_init 26 = .ok (.bipush 120, 2) := by decide +kernel
theorem dX2_init_28 : decode cX2_init 28 = .ok (.newarray .int, 2) := by decide +kernel
theorem dX2_init_30 : decode cX2_init 30 = .ok (.putfield 22, 3) := by decide +kernel
theorem dX2_init_33 : decode cX2_init 33 = .ok (.aload_n 0, 1) := by decide +kernel
theorem dX2_init_34 : decode cX2_init 34 = .ok (.bipush 110, 2) := by decide +kernel
theorem dX2_init_36 : decode cX2_init 36 = .ok (.newarray .int, 2) := by decide +kernel
theorem dX2_init_38 : decode cX2_init 38 = .ok (.putfield 25, 3) := by decide +kernel
theorem dX2_init_41 : decode cX2_init 41 = .ok (.aload_n 0, 1) := by decide +kernel
theorem dX2_init_42 : decode cX2_init 42 = .ok (.iconst 0, 1) := by decide +kernel
theorem dX2_init_43 : decode cX2_init 43 = .ok (.putfield 28, 3) := by decide +kernel
theorem dX2_init_46 : decode cX2_init 46 = .ok (.aload_n 0, 1) := by decide +kernel
theorem dX2_init_47 : decode cX2_init 47 = .ok (.aload_n 1, 1) := by decide +kernel
theorem dX2_init_48 : decode cX2_init 48 = .ok (.putfield 31, 3) := by decide +kernel
theorem dX2_init_51 : decode cX2_init 51 = .ok (.aload_n 0, 1) := by decide +kernel
theorem dX2_init_52 : decode cX2_init 52 = .ok (.aload_n 2, 1) := by decide +kernel
theorem dX2_init_53 : decode cX2_init 53 = .ok (.putfield 35, 3) := by decide +kernel
theorem dX2_init_56 : decode cX2_init 56 = .ok (.aload_n 0, 1) := by decide +kernel
theorem dX2_init_57 : decode cX2_init 57 = .ok (.aload_n 3, 1) := by decide +kernel
theorem dX2_init_58 : decode cX2_init 58 = .ok (.putfield 39, 3) := by decide +kernel
theorem dX2_init_61 : decode cX2_init 61 = .ok (.return_, 1) := by decide +kernel
set_option maxRecDepth 20000 in
theorem ggX2_find_X2_tell : GoodIn wsX2_find wsX2_tell := goodIn_r _ [12, 1, 13, 14, 15, 90, 91, 92, 93, 94, 95, 96, 97, 98] (by decide +kernel) (by decide +kernel)
set_option maxRecDepth 20000 in
theorem gX2_find_X2_tell : GoodIn wsX2_find (wsV RX2 49 RX2 yX2_tell wsX2_tell) := goodIn_app (goodIn_of _ (by decide +kernel)) ggX2_find_X2_tell
set_option maxRecDepth 20000 in
theorem ggX2_find_X2_await : GoodIn wsX2_find wsX2_await := goodIn_r _ [19, 5, 6, 90, 91, 92, 93, 94, 95, 96, 97, 98] (by decide +kernel) (by decide +kernel)
set_option maxRecDepth 20000 in
theorem gX2_find_X2_await : GoodIn wsX2_find (wsV RX2 53 RX2 yX2_await wsX2_await) := goodIn_app (goodIn_of _ (by decide +kernel)) ggX2_find_X2_await
set_option maxRecDepth 20000 in
theorem ggX2_find_X2_faultOf : GoodIn wsX2_find wsX2_faultOf := goodIn_r _ [23, 7, 24, 25, 26, 27, 28, 29, 30, 31, 32, 33, 34, 35, 36, 37, 11, 38, 2, 39, 40, 41, 42, 43, 44, 45, 46, 47, 48, 49, 50, 51, 52, 53, 54, 55, 56, 57, 58, 59, 60, 61, 62, 63, 64, 65, 66, 67, 68, 69, 70, 71, 72, 73, 74, 90, 91, 92, 93, 94, 95, 96, 97, 98, 111, 112, 113, 114, 115, 116, 117, 118, 119, 120, 121, 122, 123, 124, 125, 126, 127, 128, 129, 130, 131, 132, 133, 134, 135, 136, 99, 100, 101, 102, 103, 104, 105, 106, 107, 108, 109, 110] (by decide +kernel) (by decide +kernel)
set_option maxRecDepth 20000 in
theorem gX2_find_X2_faultOf : GoodIn wsX2_find (wsV RX2 57 RX2 yX2_faultOf wsX2_faultOf) := goodIn_app (goodIn_of _ (by decide +kernel)) ggX2_find_X2_faultOf
set_option maxRecDepth 20000 in
theorem ggX2_find_X5_partC : GoodIn wsX2_find wsX5_partC := goodIn_r _ [78, 79, 34, 66, 111, 112, 113, 114, 115, 116, 117] (by decide +kernel) (by decide +kernel)
set_option maxRecDepth 20000 in
theorem gX2_find_X5_partC : GoodIn wsX2_find (wsV RX2 61 RX5 yX5_partC wsX5_partC) := goodIn_app (goodIn_of _ (by decide +kernel)) ggX2_find_X5_partC
set_option maxRecDepth 20000 in
theorem ggX2_find_X5_partB : GoodIn wsX2_find wsX5_partB := goodIn_r _ [83, 84, 34, 65, 111, 112, 113, 114, 115, 116, 117] (by decide +kernel) (by decide +kernel)
set_option maxRecDepth 20000 in
theorem gX2_find_X5_partB : GoodIn wsX2_find (wsV RX2 66 RX5 yX5_partB wsX5_partB) := goodIn_app (goodIn_of _ (by decide +kernel)) ggX2_find_X5_partB
set_option maxRecDepth 20000 in
theorem ggX2_find_X5_partA : GoodIn wsX2_find wsX5_partA := goodIn_r _ [88, 33, 34, 89, 111, 112, 113, 114, 115, 116, 117] (by decide +kernel) (by decide +kernel)
set_option maxRecDepth 20000 in
theorem gX2_find_X5_partA : GoodIn wsX2_find (wsV RX2 69 RX5 yX5_partA wsX5_partA) := goodIn_app (goodIn_of _ (by decide +kernel)) ggX2_find_X5_partA
theorem dX2_find_0 : decode cX2_find 0 = .ok (.aload_n 0, 1) := by decide +kernel
theorem dX2_find_1 : decode cX2_find 1 = .ok (.iconst 0, 1) := by decide +kernel
theorem dX2_find_2 : decode cX2_find 2 = .ok (.putfield 9, 3) := by decide +kernel
theorem dX2_find_5 : decode cX2_find 5 = .ok (.iconst 0, 1) := by decide +kernel
theorem dX2_find_6 : decode cX2_find 6 = .ok (.istore_n 1, 1) := by decide +kernel
theorem dX2_find_7 : decode cX2_find 7 = .ok (.iload_n 1, 1) := by decide +kernel
theorem dX2_find_8 : decode cX2_find 8 = .ok (.aload_n 0, 1) := by decide +kernel
theorem dX2_find_9 : decode cX2_find 9 = .ok (.getfield 31, 3) := by decide +kernel
theorem dX2_find_12 : decode cX2_find 12 = .ok (.getfield 43, 3) := by decide +kernel
theorem dX2_find_15 : decode cX2_find 15 = .ok (.if_icmp .ge 136, 3) := by decide +kernel
theorem dX2_find_18 : decode cX2_find 18 = .ok (.aload_n 0, 1) := by decide +kernel
theorem dX2_find_19 : decode cX2_find 19 = .ok (.getfield 31, 3) := by decide +kernel
theorem dX2_find_22 : decode cX2_find 22 = .ok (.getfield 46, 3) := by decide +kernel
theorem dX2_find_25 : decode cX2_find 25 = .ok (.iload_n 1, 1) := by decide +kernel
theorem dX2_find_26 : decode cX2_find 26 = .ok (.iaload, 1) := by decide +kernel
theorem dX2_find_27 : decode cX2_find 27 = .ok (.iconst (-1), 1) := by decide +kernel
theorem dX2_find_28 : decode cX2_find 28 = .ok (.if_icmp .ne 11, 3) := by decide +kernel
theorem dX2_find_31 : decode cX2_find 31 = .ok (.aload_n 0, 1) := by decide +kernel
theorem dX2_find_32 : decode cX2_find 32 = .ok (.bipush 10, 2) := by decide +kernel
theorem dX2_find_34 : decode cX2_find 34 = .ok (.iload_n 1, 1) := by decide +kernel
theorem dX2_find_35 : decode cX2_find 35 = .ok (.iconst (-1), 1) := by decide +kernel
theorem dX2_find_36 : decode cX2_find 36 = .ok (.invokevirtual 49, 3) := by decide +kernel
theorem dX2_find_39 : decode cX2_find 39 = .ok (.aload_n 0, 1) := by decide +kernel
theorem dX2_find_40 : decode cX2_find 40 = .ok (.iconst 0, 1) := by decide +kernel
theorem dX2_find_41 : decode cX2_find 41 = .ok (.putfield 28, 3) := by decide +kernel
theorem dX2_find_44 : decode cX2_find 44 = .ok (.aload_n 0, 1) := by decide +kernel
theorem dX2_find_45 : decode cX2_find 45 = .ok (.aload_n 0, 1) := by decide +kernel
theorem dX2_find_46 : decode cX2_find 46 = .ok (.getfield 31, 3) := by decide +kernel
theorem dX2_find_49 : decode cX2_find 49 = .ok (.getfield 46, 3) := by decide +kernel
theorem dX2_find_52 : decode cX2_find 52 = .ok (.iload_n 1, 1) := by decide +kernel
theorem dX2_find_53 : decode cX2_find 53 = .ok (.iaload, 1) := by decide +kernel
theorem dX2_find_54 : decode cX2_find 54 = .ok (.invokevirtual 53, 3) := by decide +kernel
theorem dX2_find_57 : decode cX2_find 57 = .ok (.iconst 0, 1) := by decide +kernel
theorem dX2_find_58 : decode cX2_find 58 = .ok (.istore_n 2, 1) := by decide +kernel
theorem dX2_find_59 : decode cX2_find 59 = .ok (.iload_n 2, 1) := by decide +kernel
theorem dX2_find_60 : decode cX2_find 60 = .ok (.bipush 110, 2) := by decide +kernel
theorem dX2_find_62 : decode cX2_find 62 = .ok (.if_icmp .ge 83, 3) := by decide +kernel
theorem dX2_find_65 : decode cX2_find 65 = .ok (.aload_n 0, 1) := by decide +kernel
theorem dX2_find_66 : decode cX2_find 66 = .ok (.getfield 28, 3) := by decide +kernel
theorem dX2_find_69 : decode cX2_find 69 = .ok (.ifCond .le 76, 3) := by decide +kernel
theorem dX2_find_72 : decode cX2_find 72 = .ok (.aload_n 0, 1) := by decide +kernel
theorem dX2_find_73 : decode cX2_find 73 = .ok (.dup, 1) := by decide +kernel
theorem dX2_find_74 : decode cX2_find 74 = .ok (.getfield 28, 3) := by decide +kernel
theorem dX2_find_77 : decode cX2_find 77 = .ok (.iconst 1, 1) := by decide +kernel
theorem dX2_find_78 : decode cX2_find 78 = .ok (.isub, 1) := by decide +kernel
theorem dX2_find_79 : decode cX2_find 79 = .ok (.putfield 28, 3) := by decide +kernel
theorem dX2_find_82 : decode cX2_find 82 = .ok (.aload_n 0, 1) := by decide +kernel
theorem dX2_find_83 : decode cX2_find 83 = .ok (.getfield 25, 3) := by decide +kernel
theorem dX2_find_86 : decode cX2_find 86 = .ok (.aload_n 0, 1) := by decide +kernel
theorem dX2_find_87 : decode cX2_find 87 = .ok (.getfield 28, 3) := by decide +kernel
theorem dX2_find_90 : decode cX2_find 90 = .ok (.iaload, 1) := by decide +kernel
theorem dX2_find_91 : decode cX2_find 91 = .ok (.istore_n 3, 1) := by decide +kernel
theorem dX2_find_92 : decode cX2_find 92 = .ok (.aload_n 0, 1) := by decide +kernel
theorem dX2_find_93 : decode cX2_find 93 = .ok (.aload_n 0, 1) := by decide +kernel
theorem dX2_find_94 : decode cX2_find 94 = .ok (.iload_n 3, 1) := by decide +kernel
theorem dX2_find_95 : decode cX2_find 95 = .ok (.invokevirtual 57, 3) := by decide +kernel
theorem dX2_find_98 : decode cX2_find 98 = .ok (.iload_n 1, 1) := by decide +kernel
theorem dX2_find_99 : decode cX2_find 99 = .ok (.iload_n 3, 1) := by decide +kernel
theorem dX2_find_100 : decode cX2_find 100 = .ok (.invokevirtual 49, 3) := by decide +kernel
theorem dX2_find_103 : decode cX2_find 103 = .ok (.aload_n 0, 1) := by decide +kernel
theorem dX2_find_104 : decode cX2_find 104 = .ok (.aload_n 0, 1) := by decide +kernel
theorem dX2_find_105 : decode cX2_find 105 = .ok (.getfield 35, 3) := by decide +kernel
theorem dX2_find_108 : decode cX2_find 108 = .ok (.iload_n 3, 1) := by decide +kernel
theorem dX2_find_109 : decode cX2_find 109 = .ok (.invokevirtual 61, 3) := by decide +kernel
theorem dX2_find_112 : decode cX2_find 112 = .ok (.invokevirtual 53, 3) := by decide +kernel
theorem dX2_find_115 : decode cX2_find 115 = .ok (.aload_n 0, 1) := by decide +kernel
theorem dX2_find_116 : decode cX2_find 116 = .ok (.aload_n 0, 1) := by decide +kernel
theorem dX2_find_117 : decode cX2_find 117 = .ok (.getfield 35, 3) := by decide +kernel
theorem dX2_find_120 : decode cX2_find 120 = .ok (.iload_n 3, 1) := by decide +kernel
theorem dX2_find_121 : decode cX2_find 121 = .ok (.invokevirtual 66, 3) := by decide +kernel
theorem dX2_find_124 : decode cX2_find 124 = .ok (.invokevirtual 53, 3) := by decide +kernel
theorem dX2_find_127 : decode cX2_find 127 = .ok (.aload_n 0, 1) := by decide +kernel
theorem dX2_find_128 : decode cX2_find 128 = .ok (.aload_n 0, 1) := by decide +kernel
theorem dX2_find_129 : decode cX2_find 129 = .ok (.getfield 35, 3) := by decide +kernel
theorem dX2_find_132 : decode cX2_find 132 = .ok (.iload_n 3, 1) := by decide +kernel
theorem dX2_find_133 : decode cX2_find 133 = .ok (.invokevirtual 69, 3) := by decide +kernel
theorem dX2_find_136 : decode cX2_find 136 = .ok (.invokevirtual 53, 3) := by decide +kernel
theorem dX2_find_139 : decode cX2_find 139 = .ok (.iinc 2 1, 3) := by decide +kernel
theorem dX2_find_142 : decode cX2_find 142 = .ok (.goto (-83), 3) := by decide +kernel
theorem dX2_find_145 : decode cX2_find 145 = .ok (.iinc 1 1, 3) := by decide +kernel
theorem dX2_find_148 : decode cX2_find 148 = .ok (.goto (-141), 3) := by decide +kernel
theorem dX2_find_151 : decode cX2_find 151 = .ok (.return_, 1) := by decide +kernel
theorem dX2_await_0 : decode cX2_await 0 = .ok (.iload_n 1, 1) := by decide +kernel
theorem dX2_await_1 : decode cX2_await 1 = .ok (.iconst (-1), 1) := by decide +kernel
theorem dX2_await_2 : decode cX2_await 2 = .ok (.if_icmp .eq 35, 3) := by decide +kernel
theorem dX2_await_5 : decode cX2_await 5 = .ok (.aload_n 0, 1) := by decide +kernel
theorem dX2_await_6 : decode cX2_await 6 = .ok (.getfield 28, 3) := by decide +kernel
theorem dX2_await_9 : decode cX2_await 9 = .ok (.aload_n 0, 1) := by decide +kernel
theorem dX2_await_10 : decode cX2_await 10 = .ok (.getfield 25, 3) := by decide +kernel
theorem dX2_await_13 : decode cX2_await 13 = .ok (.arraylength, 1) := by decide +kernel
theorem dX2_await_14 : decode cX2_await 14 = .ok (.if_icmp .ge 23, 3) := by decide +kernel
theorem dX2_await_17 : decode cX2_await 17 = .ok (.aload_n 0, 1) := by decide +kernel
theorem dX2_await_18 : decode cX2_await 18 = .ok (.getfield 25, 3) := by decide +kernel
theorem dX2_await_21 : decode cX2_await 21 = .ok (.aload_n 0, 1) := by decide +kernel
theorem dX2_await_22 : decode cX2_await 22 = .ok (.getfield 28, 3) := by decide +kernel
theorem dX2_await_25 : decode cX2_await 25 = .ok (.iload_n 1, 1) := by decide +kernel
theorem dX2_await_26 : decode cX2_await 26 = .ok (.iastore, 1) := by decide +kernel
theorem dX2_await_27 : decode cX2_await 27 = .ok (.aload_n 0, 1) := by decide +kernel
theorem dX2_await_28 : decode cX2_await 28 = .ok (.dup, 1) := by decide +kernel
theorem dX2_await_29 : decode cX2_await 29 = .ok (.getfield 28, 3) := by decide +kernel
theorem dX2_await_32 : decode cX2_await 32 = .ok (.iconst 1, 1) := by decide +kernel
theorem dX2_await_33 : decode cX2_await 33 = .ok (.iadd, 1) := by decide +kernel
theorem dX2_await_34 : decode cX2_await 34 = .ok (.putfield 28, 3) := by decide +kernel
theorem dX2_await_37 : decode cX2_await 37 = .ok (.return_, 1) := by decide +kernel
theorem dX2_tell_0 : decode cX2_tell 0 = .ok (.iload_n 1, 1) := by decide +kernel
theorem dX2_tell_1 : decode cX2_tell 1 = .ok (.ifCond .eq 55, 3) := by decide +kernel
theorem dX2_tell_4 : decode cX2_tell 4 = .ok (.aload_n 0, 1) := by decide +kernel
theorem dX2_tell_5 : decode cX2_tell 5 = .ok (.getfield 9, 3) := by decide +kernel
theorem dX2_tell_8 : decode cX2_tell 8 = .ok (.aload_n 0, 1) := by decide +kernel
theorem dX2_tell_9 : decode cX2_tell 9 = .ok (.getfield 15, 3) := by decide +kernel
theorem dX2_tell_12 : decode cX2_tell 12 = .ok (.arraylength, 1) := by decide +kernel
theorem dX2_tell_13 : decode cX2_tell 13 = .ok (.if_icmp .ge 43, 3) := by decide +kernel
theorem dX2_tell_16 : decode cX2_tell 16 = .ok (.aload_n 0, 1) := by decide +kernel
theorem dX2_tell_17 : decode cX2_tell 17 = .ok (.getfield 15, 3) := by decide +kernel
theorem dX2_tell_20 : decode cX2_tell 20 = .ok (.aload_n 0, 1) := by decide +kernel
theorem dX2_tell_21 : decode cX2_tell 21 = .ok (.getfield 9, 3) := by decide +kernel
theorem dX2_tell_24 : decode cX2_tell 24 = .ok (.iload_n 1, 1) := by decide +kernel
theorem dX2_tell_25 : decode cX2_tell 25 = .ok (.iastore, 1) := by decide +kernel
theorem dX2_tell_26 : decode cX2_tell 26 = .ok (.aload_n 0, 1) := by decide +kernel
theorem dX2_tell_27 : decode cX2_tell 27 = .ok (.getfield 19, 3) := by decide +kernel
theorem dX2_tell_30 : decode cX2_tell 30 = .ok (.aload_n 0, 1) := by decide +kernel
theorem dX2_tell_31 : decode cX2_tell 31 = .ok (.getfield 9, 3) := by decide +kernel
theorem dX2_tell_34 : decode cX2_tell 34 = .ok (.iload_n 2, 1) := by decide +kernel
theorem dX2_tell_35 : decode cX2_tell 35 = .ok (.iastore, 1) := by decide +kernel
theorem dX2_tell_36 : decode cX2_tell 36 = .ok (.aload_n 0, 1) := by decide +kernel
theorem dX2_tell_37 : decode cX2_tell 37 = .ok (.getfield 22, 3) := by decide +kernel
theorem dX2_tell_40 : decode cX2_tell 40 = .ok (.aload_n 0, 1) := by decide +kernel
theorem dX2_tell_41 : decode cX2_tell 41 = .ok (.getfield 9, 3) := by decide +kernel
theorem dX2_tell_44 : decode cX2_tell 44 = .ok (.iload_n 3, 1) := by decide +kernel
theorem dX2_tell_45 : decode cX2_tell 45 = .ok (.iastore, 1) := by decide +kernel
theorem dX2_tell_46 : decode cX2_tell 46 = .ok (.aload_n 0, 1) := by decide +kernel
theorem dX2_tell_47 : decode cX2_tell 47 = .ok (.dup, 1) := by decide +kernel
theorem dX2_tell_48 : decode cX2_tell 48 = .ok (.getfield 9, 3) := by decide +kernel
theorem dX2_tell_51 : decode cX2_tell 51 = .ok (.iconst 1, 1) := by decide +kernel
theorem dX2_tell_52 : decode cX2_tell 52 = .ok (.iadd, 1) := by decide +kernel
theorem dX2_tell_53 : decode cX2_tell 53 = .ok (.putfield 9, 3) := by decide +kernel
theorem dX2_tell_56 : decode cX2_tell 56 = .ok (.return_, 1) := by decide +kernel
set_option maxRecDepth 20000 in
theorem ggX2_faultOf_X5_hasName : GoodIn wsX2_faultOf wsX5_hasName := goodIn_r _ [10, 11, 12, 64, 65, 66, 67, 68, 69, 70] (by decide +kernel) (by decide +kernel)
set_option maxRecDepth 20000 in
theorem gX2_faultOf_X5_hasName : GoodIn wsX2_faultOf (wsV RX2 75 RX5 yX5_hasName wsX5_hasName) := goodIn_app (goodIn_of _ (by decide +kernel)) ggX2_faultOf_X5_hasName
set_option maxRecDepth 20000 in
theorem ggX2_faultOf_X2_isAsItHasToBe : GoodIn wsX2_faultOf wsX2_isAsItHasToBe := goodIn_r _ [17, 3, 4, 1, 2, 18, 19, 20, 21, 16, 22, 23, 24, 25, 26, 27, 28, 29, 30, 31, 32, 55, 56, 57, 58, 59, 60, 61, 62, 63, 71, 72, 73, 74, 75, 76, 77, 78, 79, 80, 81, 82, 83, 84, 85, 86, 87, 88, 89, 64, 65, 66, 67, 68, 69, 70, 90, 91, 92, 93, 94, 95, 96, 97, 98, 99, 100, 101] (by decide +kernel) (by decide +kernel)
set_option maxRecDepth 20000 in
theorem gX2_faultOf_X2_isAsItHasToBe : GoodIn wsX2_faultOf (wsV RX2 84 RX2 yX2_isAsItHasToBe wsX2_isAsItHasToBe) := goodIn_app (goodIn_of _ (by decide +kernel)) ggX2_faultOf_X2_isAsItHasToBe
set_option maxRecDepth 20000 in
theorem ggX2_faultOf_X2_faultOfArguments : GoodIn wsX2_faultOf wsX2_faultOfArguments := goodIn_r _ [36, 3, 4, 1, 18, 37, 19, 38, 39, 40, 41, 42, 43, 9, 44, 45, 46, 47, 48, 49, 16, 50, 2, 20, 21, 22, 51, 52, 53, 54, 12, 55, 56, 57, 58, 59, 60, 61, 62, 63, 71, 72, 73, 74, 75, 76, 77, 78, 79, 80, 81, 82, 83, 84, 85, 86, 87, 88, 89, 90, 91, 92, 93, 94, 95, 96, 97, 98, 99, 100, 101, 64, 65, 66, 67, 68, 69, 70] (by decide +kernel) (by decide +kernel)
set_option maxRecDepth 20000 in
theorem gX2_faultOf_X2_faultOfArguments : GoodIn wsX2_faultOf (wsV RX2 87 RX2 yX2_faultOfArguments wsX2_faultOfArguments) := goodIn_app (goodIn_of _ (by decide +kernel)) ggX2_faultOf_X2_faultOfArguments
theorem dX2_faultOf_0 : decode cX2_faultOf 0 = .ok (.aload_n 0, 1) := by decide +kernel
theorem dX2_faultOf_1 : decode cX2_faultOf 1 = .ok (.getfield 35, 3) := by decide +kernel
theorem dX2_faultOf_4 : decode cX2_faultOf 4 = .ok (.getfield 72, 3) := by decide +kernel
theorem dX2_faultOf_7 : decode cX2_faultOf 7 = .ok (.iload_n 1, 1) := by decide +kernel
theorem dX2_faultOf_8 : decode cX2_faultOf 8 = .ok (.iaload, 1) := by decide +kernel
theorem dX2_faultOf_9 : decode cX2_faultOf 9 = .ok (.istore_n 2, 1) := by decide +kernel
theorem dX2_faultOf_10 : decode cX2_faultOf 10 = .ok (.aload_n 0, 1) := by decide +kernel
theorem dX2_faultOf_11 : decode cX2_faultOf 11 = .ok (.getfield 35, 3) := by decide +kernel
theorem dX2_faultOf_14 : decode cX2_faultOf 14 = .ok (.iload_n 1, 1) := by decide +kernel
theorem dX2_faultOf_15 : decode cX2_faultOf 15 = .ok (.invokevirtual 75, 3) := by decide +kernel
theorem dX2_faultOf_18 : decode cX2_faultOf 18 = .ok (.ifCond .eq 49, 3) := by decide +kernel
theorem dX2_faultOf_21 : decode cX2_faultOf 21 = .ok (.aload_n 0, 1) := by decide +kernel
theorem dX2_faultOf_22 : decode cX2_faultOf 22 = .ok (.getfield 39, 3) := by decide +kernel
theorem dX2_faultOf_25 : decode cX2_faultOf 25 = .ok (.getfield 79, 3) := by decide +kernel
theorem dX2_faultOf_28 : decode cX2_faultOf 28 = .ok (.iload_n 1, 1) := by decide +kernel
theorem dX2_faultOf_29 : decode cX2_faultOf 29 = .ok (.iaload, 1) := by decide +kernel
theorem dX2_faultOf_30 : decode cX2_faultOf 30 = .ok (.istore_n 3, 1) := by decide +kernel
theorem dX2_faultOf_31 : decode cX2_faultOf 31 = .ok (.iload_n 3, 1) := by decide +kernel
theorem dX2_faultOf_32 : decode cX2_faultOf 32 = .ok (.iconst (-1), 1) := by decide +kernel
theorem dX2_faultOf_33 : decode cX2_faultOf 33 = .ok (.if_icmp .ne 5, 3) := by decide +kernel
theorem dX2_faultOf_36 : decode cX2_faultOf 36 = .ok (.iconst 1, 1) := by decide +kernel
theorem dX2_faultOf_37 : decode cX2_faultOf 37 = .ok (.ireturn, 1) := by decide +kernel
theorem dX2_faultOf_38 : decode cX2_faultOf 38 = .ok (.iload_n 2, 1) := by decide +kernel
theorem dX2_faultOf_39 : decode cX2_faultOf 39 = .ok (.bipush 13, 2) := by decide +kernel
theorem dX2_faultOf_41 : decode cX2_faultOf 41 = .ok (.if_icmp .ne 16, 3) := by decide +kernel
theorem dX2_faultOf_44 : decode cX2_faultOf 44 = .ok (.iload_n 3, 1) := by decide +kernel
theorem dX2_faultOf_45 : decode cX2_faultOf 45 = .ok (.bipush 9, 2) := by decide +kernel
theorem dX2_faultOf_47 : decode cX2_faultOf 47 = .ok (.if_icmp .eq 8, 3) := by decide +kernel
theorem dX2_faultOf_50 : decode cX2_faultOf 50 = .ok (.iload_n 3, 1) := by decide +kernel
theorem dX2_faultOf_51 : decode cX2_faultOf 51 = .ok (.iconst 2, 1) := by decide +kernel
theorem dX2_faultOf_52 : decode cX2_faultOf 52 = .ok (.if_icmp .ne 5, 3) := by decide +kernel
theorem dX2_faultOf_55 : decode cX2_faultOf 55 = .ok (.iconst 3, 1) := by decide +kernel
theorem dX2_faultOf_56 : decode cX2_faultOf 56 = .ok (.ireturn, 1) := by decide +kernel
theorem dX2_faultOf_57 : decode cX2_faultOf 57 = .ok (.aload_n 0, 1) := by decide +kernel
theorem dX2_faultOf_58 : decode cX2_faultOf 58 = .ok (.iload_n 1, 1) := by decide +kernel
theorem dX2_faultOf_59 : decode cX2_faultOf 59 = .ok (.invokevirtual 84, 3) := by decide +kernel
theorem dX2_faultOf_62 : decode cX2_faultOf 62 = .ok (.ifCond .ne 5, 3) := by decide +kernel
theorem dX2_faultOf_65 : decode cX2_faultOf 65 = .ok (.iconst 2, 1) := by decide +kernel
theorem dX2_faultOf_66 : decode cX2_faultOf 66 = .ok (.ireturn, 1) := by decide +kernel
theorem dX2_faultOf_67 : decode cX2_faultOf 67 = .ok (.iload_n 2, 1) := by decide +kernel
theorem dX2_faultOf_68 : decode cX2_faultOf 68 = .ok (.bipush 8, 2) := by decide +kernel
theorem dX2_faultOf_70 : decode cX2_faultOf 70 = .ok (.if_icmp .ne 9, 3) := by decide +kernel
theorem dX2_faultOf_73 : decode cX2_faultOf 73 = .ok (.aload_n 0, 1) := by decide +kernel
theorem dX2_faultOf_74 : decode cX2_faultOf 74 = .ok (.iload_n 1, 1) := by decide +kernel
theorem dX2_faultOf_75 : decode cX2_faultOf 75 = .ok (.invokevirtual 87, 3) := by decide +kernel
theorem dX2_faultOf_78 : decode cX2_faultOf 78 = .ok (.ireturn, 1) := by decide +kernel
theorem dX2_faultOf_79 : decode cX2_faultOf 79 = .ok (.iload_n 2, 1) := by decide +kernel
theorem dX2_faultOf_80 : decode cX2_faultOf 80 = .ok (.bipush 17, 2) := by decide +kernel
theorem dX2_faultOf_82 : decode cX2_faultOf 82 = .ok (.if_icmp .ne 21, 3) := by decide +kernel
theorem dX2_faultOf_85 : decode cX2_faultOf 85 = .ok (.aload_n 0, 1) := by decide +kernel
theorem dX2_faultOf_86 : decode cX2_faultOf 86 = .ok (.getfield 39, 3) := by decide +kernel
theorem dX2_faultOf_89 : decode cX2_faultOf 89 = .ok (.getfield 90, 3) := by decide +kernel
theorem dX2_faultOf_92 : decode cX2_faultOf 92 = .ok (.iload_n 1, 1) := by decide +kernel
theorem dX2_faultOf_93 : decode cX2_faultOf 93 = .ok (.iaload, 1) := by decide +kernel
theorem dX2_faultOf_94 : decode cX2_faultOf 94 = .ok (.iconst (-1), 1) := by decide +kernel
theorem dX2_faultOf_95 : decode cX2_faultOf 95 = .ok (.if_icmp .ne 8, 3) := by decide +kernel
theorem dX2_faultOf_98 : decode cX2_faultOf 98 = .ok (.bipush 6, 2) := by decide +kernel
theorem dX2_faultOf_100 : decode cX2_faultOf 100 = .ok (.goto 4, 3) := by decide +kernel
theorem dX2_faultOf_103 : decode cX2_faultOf 103 = .ok (.iconst 0, 1) := by decide +kernel
theorem dX2_faultOf_104 : decode cX2_faultOf 104 = .ok (.ireturn, 1) := by decide +kernel
set_option maxRecDepth 20000 in
theorem ggX2_isAsItHasToBe_X2_isToBeSet : GoodIn wsX2_isAsItHasToBe wsX2_isToBeSet := goodIn_r _ [10] (by decide +kernel) (by decide +kernel)
set_option maxRecDepth 20000 in
theorem gX2_isAsItHasToBe_X2_isToBeSet : GoodIn wsX2_isAsItHasToBe (va_wsS RX2 93 yX2_isToBeSet wsX2_isToBeSet) := goodIn_app (goodIn_of _ (by decide +kernel)) ggX2_isAsItHasToBe_X2_isToBeSet
set_option maxRecDepth 20000 in
theorem ggX2_isAsItHasToBe_X2_isProc : GoodIn wsX2_isAsItHasToBe wsX2_isProc := goodIn_r _ [13] (by decide +kernel) (by decide +kernel)
set_option maxRecDepth 20000 in
theorem gX2_isAsItHasToBe_X2_isProc : GoodIn wsX2_isAsItHasToBe (va_wsS RX2 96 yX2_isProc wsX2_isProc) := goodIn_app (goodIn_of _ (by decide +kernel)) ggX2_isAsItHasToBe_X2_isProc
set_option maxRecDepth 20000 in
theorem ggX2_isAsItHasToBe_X1_takesValuesAlone : GoodIn wsX2_isAsItHasToBe wsX1_takesValuesAlone := goodIn_r _ [18, 19, 20, 56, 57, 58, 59, 60, 61, 62, 63, 64, 65, 66, 67] (by decide +kernel) (by decide +kernel)
set_option maxRecDepth 20000 in
theorem gX2_isAsItHasToBe_X1_takesValuesAlone : GoodIn wsX2_isAsItHasToBe (wsV RX2 102 RX1 yX1_takesValuesAlone wsX1_takesValuesAlone) := goodIn_app (goodIn_of _ (by decide +kernel)) ggX2_isAsItHasToBe_X1_takesValuesAlone
theorem dX2_isAsItHasToBe_0 : decode cX2_isAsItHasToBe 0 = .ok (.aload_n 0, 1) := by decide +kernel
theorem dX2_isAsItHasToBe_1 : decode cX2_isAsItHasToBe 1 = .ok (.getfield 39, 3) := by decide +kernel
theorem dX2_isAsItHasToBe_4 : decode cX2_isAsItHasToBe 4 = .ok (.getfield 79, 3) := by decide +kernel
theorem dX2_isAsItHasToBe_7 : decode cX2_isAsItHasToBe 7 = .ok (.iload_n 1, 1) := by decide +kernel
theorem dX2_isAsItHasToBe_8 : decode cX2_isAsItHasToBe 8 = .ok (.iaload, 1) := by decide +kernel
theorem dX2_isAsItHasToBe_9 : decode cX2_isAsItHasToBe 9 = .ok (.istore_n 2, 1) := by decide +kernel
theorem dX2_isAsItHasToBe_10 : decode cX2_isAsItHasToBe 10 = .ok (.aload_n 0, 1) := by decide +kernel
theorem dX2_isAsItHasToBe_11 : decode cX2_isAsItHasToBe 11 = .ok (.getfield 35, 3) := by decide +kernel
theorem dX2_isAsItHasToBe_14 : decode cX2_isAsItHasToBe 14 = .ok (.getfield 72, 3) := by decide +kernel
theorem dX2_isAsItHasToBe_17 : decode cX2_isAsItHasToBe 17 = .ok (.iload_n 1, 1) := by decide +kernel
theorem dX2_isAsItHasToBe_18 : decode cX2_isAsItHasToBe 18 = .ok (.iaload, 1) := by decide +kernel
theorem dX2_isAsItHasToBe_19 : decode cX2_isAsItHasToBe 19 = .ok (.lookupswitch 147 #[(1, 49), (8, 78), (10, 97), (13, 73), (21, 135)], 49) := by decide +kernel
theorem dX2_isAsItHasToBe_68 : decode cX2_isAsItHasToBe 68 = .ok (.iload_n 2, 1) := by decide +kernel
theorem dX2_isAsItHasToBe_69 : decode cX2_isAsItHasToBe 69 = .ok (.invokestatic 93, 3) := by decide +kernel
theorem dX2_isAsItHasToBe_72 : decode cX2_isAsItHasToBe 72 = .ok (.ifCond .ne 14, 3) := by decide +kernel
theorem dX2_isAsItHasToBe_75 : decode cX2_isAsItHasToBe 75 = .ok (.iload_n 2, 1) := by decide +kernel
theorem dX2_isAsItHasToBe_76 : decode cX2_isAsItHasToBe 76 = .ok (.bipush 9, 2) := by decide +kernel
theorem dX2_isAsItHasToBe_78 : decode cX2_isAsItHasToBe 78 = .ok (.if_icmp .eq 8, 3) := by decide +kernel
theorem dX2_isAsItHasToBe_81 : decode cX2_isAsItHasToBe 81 = .ok (.iload_n 2, 1) := by decide +kernel
theorem dX2_isAsItHasToBe_82 : decode cX2_isAsItHasToBe 82 = .ok (.iconst 2, 1) := by decide +kernel
theorem dX2_isAsItHasToBe_83 : decode cX2_isAsItHasToBe 83 = .ok (.if_icmp .ne 7, 3) := by decide +kernel
theorem dX2_isAsItHasToBe_86 : decode cX2_isAsItHasToBe 86 = .ok (.iconst 1, 1) := by decide +kernel
theorem dX2_isAsItHasToBe_87 : decode cX2_isAsItHasToBe 87 = .ok (.goto 4, 3) := by decide +kernel
theorem dX2_isAsItHasToBe_90 : decode cX2_isAsItHasToBe 90 = .ok (.iconst 0, 1) := by decide +kernel
theorem dX2_isAsItHasToBe_91 : decode cX2_isAsItHasToBe 91 = .ok (.ireturn, 1) := by decide +kernel
theorem dX2_isAsItHasToBe_92 : decode cX2_isAsItHasToBe 92 = .ok (.iload_n 2, 1) := by decide +kernel
theorem dX2_isAsItHasToBe_93 : decode cX2_isAsItHasToBe 93 = .ok (.invokestatic 93, 3) := by decide +kernel
theorem dX2_isAsItHasToBe_96 : decode cX2_isAsItHasToBe 96 = .ok (.ireturn, 1) := by decide +kernel
theorem dX2_isAsItHasToBe_97 : decode cX2_isAsItHasToBe 97 = .ok (.iload_n 2, 1) := by decide +kernel
theorem dX2_isAsItHasToBe_98 : decode cX2_isAsItHasToBe 98 = .ok (.bipush 10, 2) := by decide +kernel
theorem dX2_isAsItHasToBe_100 : decode cX2_isAsItHasToBe 100 = .ok (.if_icmp .eq 10, 3) := by decide +kernel
theorem dX2_isAsItHasToBe_103 : decode cX2_isAsItHasToBe 103 = .ok (.iload_n 2, 1) := by decide +kernel
theorem dX2_isAsItHasToBe_104 : decode cX2_isAsItHasToBe 104 = .ok (.invokestatic 96, 3) := by decide +kernel
theorem dX2_isAsItHasToBe_107 : decode cX2_isAsItHasToBe 107 = .ok (.ifCond .eq 7, 3) := by decide +kernel
theorem dX2_isAsItHasToBe_110 : decode cX2_isAsItHasToBe 110 = .ok (.iconst 1, 1) := by decide +kernel
theorem dX2_isAsItHasToBe_111 : decode cX2_isAsItHasToBe 111 = .ok (.goto 4, 3) := by decide +kernel
theorem dX2_isAsItHasToBe_114 : decode cX2_isAsItHasToBe 114 = .ok (.iconst 0, 1) := by decide +kernel
theorem dX2_isAsItHasToBe_115 : decode cX2_isAsItHasToBe 115 = .ok (.ireturn, 1) := by decide +kernel
theorem dX2_isAsItHasToBe_116 : decode cX2_isAsItHasToBe 116 = .ok (.iload_n 2, 1) := by decide +kernel
theorem dX2_isAsItHasToBe_117 : decode cX2_isAsItHasToBe 117 = .ok (.invokestatic 96, 3) := by decide +kernel
theorem dX2_isAsItHasToBe_120 : decode cX2_isAsItHasToBe 120 = .ok (.ifCond .ne 28, 3) := by decide +kernel
theorem dX2_isAsItHasToBe_123 : decode cX2_isAsItHasToBe 123 = .ok (.iload_n 2, 1) := by decide +kernel
theorem dX2_isAsItHasToBe_124 : decode cX2_isAsItHasToBe 124 = .ok (.bipush 10, 2) := by decide +kernel
theorem dX2_isAsItHasToBe_126 : decode cX2_isAsItHasToBe 126 = .ok (.if_icmp .ne 26, 3) := by decide +kernel
theorem dX2_isAsItHasToBe_129 : decode cX2_isAsItHasToBe 129 = .ok (.aload_n 0, 1) := by decide +kernel
theorem dX2_isAsItHasToBe_130 : decode cX2_isAsItHasToBe 130 = .ok (.getfield 31, 3) := by decide +kernel
theorem dX2_isAsItHasToBe_133 : decode cX2_isAsItHasToBe 133 = .ok (.aload_n 0, 1) := by decide +kernel
theorem dX2_isAsItHasToBe_134 : decode cX2_isAsItHasToBe 134 = .ok (.getfield 39, 3) := by decide +kernel
theorem dX2_isAsItHasToBe_137 : decode cX2_isAsItHasToBe 137 = .ok (.getfield 99, 3) := by decide +kernel
theorem dX2_isAsItHasToBe_140 : decode cX2_isAsItHasToBe 140 = .ok (.iload_n 1, 1) := by decide +kernel
theorem dX2_isAsItHasToBe_141 : decode cX2_isAsItHasToBe 141 = .ok (.iaload, 1) := by decide +kernel
theorem dX2_isAsItHasToBe_142 : decode cX2_isAsItHasToBe 142 = .ok (.invokevirtual 102, 3) := by decide +kernel
theorem dX2_isAsItHasToBe_145 : decode cX2_isAsItHasToBe 145 = .ok (.ifCond .eq 7, 3) := by decide +kernel
theorem dX2_isAsItHasToBe_148 : decode cX2_isAsItHasToBe 148 = .ok (.iconst 1, 1) := by decide +kernel
theorem dX2_isAsItHasToBe_149 : decode cX2_isAsItHasToBe 149 = .ok (.goto 4, 3) := by decide +kernel
theorem dX2_isAsItHasToBe_152 : decode cX2_isAsItHasToBe 152 = .ok (.iconst 0, 1) := by decide +kernel
theorem dX2_isAsItHasToBe_153 : decode cX2_isAsItHasToBe 153 = .ok (.ireturn, 1) := by decide +kernel
theorem dX2_isAsItHasToBe_154 : decode cX2_isAsItHasToBe 154 = .ok (.iload_n 2, 1) := by decide +kernel
theorem dX2_isAsItHasToBe_155 : decode cX2_isAsItHasToBe 155 = .ok (.bipush 8, 2) := by decide +kernel
theorem dX2_isAsItHasToBe_157 : decode cX2_isAsItHasToBe 157 = .ok (.if_icmp .ne 7, 3) := by decide +kernel
theorem dX2_isAsItHasToBe_160 : decode cX2_isAsItHasToBe 160 = .ok (.iconst 1, 1) := by decide +kernel
theorem dX2_isAsItHasToBe_161 : decode cX2_isAsItHasToBe 161 = .ok (.goto 4, 3) := by decide +kernel
theorem dX2_isAsItHasToBe_164 : decode cX2_isAsItHasToBe 164 = .ok (.iconst 0, 1) := by decide +kernel
theorem dX2_isAsItHasToBe_165 : decode cX2_isAsItHasToBe 165 = .ok (.ireturn, 1) := by decide +kernel
theorem dX2_isAsItHasToBe_166 : decode cX2_isAsItHasToBe 166 = .ok (.iload_n 2, 1) := by decide +kernel
theorem dX2_isAsItHasToBe_167 : decode cX2_isAsItHasToBe 167 = .ok (.bipush 7, 2) := by decide +kernel
theorem dX2_isAsItHasToBe_169 : decode cX2_isAsItHasToBe 169 = .ok (.if_icmp .eq 13, 3) := by decide +kernel
theorem dX2_isAsItHasToBe_172 : decode cX2_isAsItHasToBe 172 = .ok (.iload_n 2, 1) := by decide +kernel
theorem dX2_isAsItHasToBe_173 : decode cX2_isAsItHasToBe 173 = .ok (.iconst 3, 1) := by decide +kernel
theorem dX2_isAsItHasToBe_174 : decode cX2_isAsItHasToBe 174 = .ok (.if_icmp .eq 8, 3) := by decide +kernel
theorem dX2_isAsItHasToBe_177 : decode cX2_isAsItHasToBe 177 = .ok (.iload_n 2, 1) := by decide +kernel
theorem dX2_isAsItHasToBe_178 : decode cX2_isAsItHasToBe 178 = .ok (.iconst 4, 1) := by decide +kernel
theorem dX2_isAsItHasToBe_179 : decode cX2_isAsItHasToBe 179 = .ok (.if_icmp .ne 7, 3) := by decide +kernel
theorem dX2_isAsItHasToBe_182 : decode cX2_isAsItHasToBe 182 = .ok (.iconst 1, 1) := by decide +kernel
theorem dX2_isAsItHasToBe_183 : decode cX2_isAsItHasToBe 183 = .ok (.goto 4, 3) := by decide +kernel
theorem dX2_isAsItHasToBe_186 : decode cX2_isAsItHasToBe 186 = .ok (.iconst 0, 1) := by decide +kernel
theorem dX2_isAsItHasToBe_187 : decode cX2_isAsItHasToBe 187 = .ok (.ireturn, 1) := by decide +kernel
theorem dX2_isToBeSet_0 : decode cX2_isToBeSet 0 = .ok (.iload_n 0, 1) := by decide +kernel
theorem dX2_isToBeSet_1 : decode cX2_isToBeSet 1 = .ok (.bipush 6, 2) := by decide +kernel
theorem dX2_isToBeSet_3 : decode cX2_isToBeSet 3 = .ok (.if_icmp .eq 12, 3) := by decide +kernel
theorem dX2_isToBeSet_6 : decode cX2_isToBeSet 6 = .ok (.iload_n 0, 1) := by decide +kernel
theorem dX2_isToBeSet_7 : decode cX2_isToBeSet 7 = .ok (.ifCond .eq 8, 3) := by decide +kernel
theorem dX2_isToBeSet_10 : decode cX2_isToBeSet 10 = .ok (.iload_n 0, 1) := by decide +kernel
theorem dX2_isToBeSet_11 : decode cX2_isToBeSet 11 = .ok (.iconst 1, 1) := by decide +kernel
theorem dX2_isToBeSet_12 : decode cX2_isToBeSet 12 = .ok (.if_icmp .ne 7, 3) := by decide +kernel
theorem dX2_isToBeSet_15 : decode cX2_isToBeSet 15 = .ok (.iconst 1, 1) := by decide +kernel
theorem dX2_isToBeSet_16 : decode cX2_isToBeSet 16 = .ok (.goto 4, 3) := by decide +kernel
theorem dX2_isToBeSet_19 : decode cX2_isToBeSet 19 = .ok (.iconst 0, 1) := by decide +kernel
theorem dX2_isToBeSet_20 : decode cX2_isToBeSet 20 = .ok (.ireturn, 1) := by decide +kernel
theorem dX2_isProc_0 : decode cX2_isProc 0 = .ok (.iload_n 0, 1) := by decide +kernel
theorem dX2_isProc_1 : decode cX2_isProc 1 = .ok (.iconst 5, 1) := by decide +kernel
theorem dX2_isProc_2 : decode cX2_isProc 2 = .ok (.if_icmp .eq 9, 3) := by decide +kernel
theorem dX2_isProc_5 : decode cX2_isProc 5 = .ok (.iload_n 0, 1) := by decide +kernel
theorem dX2_isProc_6 : decode cX2_isProc 6 = .ok (.bipush 8, 2) := by decide +kernel
theorem dX2_isProc_8 : decode cX2_isProc 8 = .ok (.if_icmp .ne 7, 3) := by decide +kernel
theorem dX2_isProc_11 : decode cX2_isProc 11 = .ok (.iconst 1, 1) := by decide +kernel
theorem dX2_isProc_12 : decode cX2_isProc 12 = .ok (.goto 4, 3) := by decide +kernel
theorem dX2_isProc_15 : decode cX2_isProc 15 = .ok (.iconst 0, 1) := by decide +kernel
theorem dX2_isProc_16 : decode cX2_isProc 16 = .ok (.ireturn, 1) := by decide +kernel
set_option maxRecDepth 20000 in
theorem ggX2_faultOfArguments_X5_argumentsOf : GoodIn wsX2_faultOfArguments wsX5_argumentsOf := goodIn_r _ [14, 15, 16, 71, 72, 73, 74, 75, 76, 77] (by decide +kernel) (by decide +kernel)
set_option maxRecDepth 20000 in
theorem gX2_faultOfArguments_X5_argumentsOf : GoodIn wsX2_faultOfArguments (wsV RX2 105 RX5 yX5_argumentsOf wsX5_argumentsOf) := goodIn_app (goodIn_of _ (by decide +kernel)) ggX2_faultOfArguments_X5_argumentsOf
set_option maxRecDepth 20000 in
theorem ggX2_faultOfArguments_X2_suits : GoodIn wsX2_faultOfArguments wsX2_suits := goodIn_r _ [21, 3, 22, 1, 2, 23, 24, 20, 25, 26, 27, 28, 13, 29, 30, 31, 32, 33, 34, 35, 36, 37, 38, 39, 71, 72, 73, 74, 75, 76, 77, 40, 41, 42, 43, 44, 45, 46, 47, 48, 49, 50, 51, 52, 53, 54, 55, 56, 57, 58] (by decide +kernel) (by decide +kernel)
set_option maxRecDepth 20000 in
theorem gX2_faultOfArguments_X2_suits : GoodIn wsX2_faultOfArguments (wsV RX2 117 RX2 yX2_suits wsX2_suits) := goodIn_app (goodIn_of _ (by decide +kernel)) ggX2_faultOfArguments_X2_suits
theorem dX2_faultOfArguments_0 : decode cX2_faultOfArguments 0 = .ok (.aload_n 0, 1) := by decide +kernel
theorem dX2_faultOfArguments_1 : decode cX2_faultOfArguments 1 = .ok (.getfield 39, 3) := by decide +kernel
theorem dX2_faultOfArguments_4 : decode cX2_faultOfArguments 4 = .ok (.getfield 79, 3) := by decide +kernel
theorem dX2_faultOfArguments_7 : decode cX2_faultOfArguments 7 = .ok (.iload_n 1, 1) := by decide +kernel
theorem dX2_faultOfArguments_8 : decode cX2_faultOfArguments 8 = .ok (.iaload, 1) := by decide +kernel
theorem dX2_faultOfArguments_9 : decode cX2_faultOfArguments 9 = .ok (.bipush 10, 2) := by decide +kernel
theorem dX2_faultOfArguments_11 : decode cX2_faultOfArguments 11 = .ok (.if_icmp .ne 7, 3) := by decide +kernel
theorem dX2_faultOfArguments_14 : decode cX2_faultOfArguments 14 = .ok (.iconst 1, 1) := by decide +kernel
theorem dX2_faultOfArguments_15 : decode cX2_faultOfArguments 15 = .ok (.goto 4, 3) := by decide +kernel
theorem dX2_faultOfArguments_18 : decode cX2_faultOfArguments 18 = .ok (.iconst 0, 1) := by decide +kernel
theorem dX2_faultOfArguments_19 : decode cX2_faultOfArguments 19 = .ok (.istore_n 2, 1) := by decide +kernel
theorem dX2_faultOfArguments_20 : decode cX2_faultOfArguments 20 = .ok (.aload_n 0, 1) := by decide +kernel
theorem dX2_faultOfArguments_21 : decode cX2_faultOfArguments 21 = .ok (.getfield 35, 3) := by decide +kernel
theorem dX2_faultOfArguments_24 : decode cX2_faultOfArguments 24 = .ok (.iload_n 1, 1) := by decide +kernel
theorem dX2_faultOfArguments_25 : decode cX2_faultOfArguments 25 = .ok (.invokevirtual 105, 3) := by decide +kernel
theorem dX2_faultOfArguments_28 : decode cX2_faultOfArguments 28 = .ok (.istore_n 3, 1) := by decide +kernel
theorem dX2_faultOfArguments_29 : decode cX2_faultOfArguments 29 = .ok (.iload_n 2, 1) := by decide +kernel
theorem dX2_faultOfArguments_30 : decode cX2_faultOfArguments 30 = .ok (.ifCond .eq 26, 3) := by decide +kernel
theorem dX2_faultOfArguments_33 : decode cX2_faultOfArguments 33 = .ok (.iload_n 3, 1) := by decide +kernel
theorem dX2_faultOfArguments_34 : decode cX2_faultOfArguments 34 = .ok (.aload_n 0, 1) := by decide +kernel
theorem dX2_faultOfArguments_35 : decode cX2_faultOfArguments 35 = .ok (.getfield 31, 3) := by decide +kernel
theorem dX2_faultOfArguments_38 : decode cX2_faultOfArguments 38 = .ok (.getfield 108, 3) := by decide +kernel
theorem dX2_faultOfArguments_41 : decode cX2_faultOfArguments 41 = .ok (.aload_n 0, 1) := by decide +kernel
theorem dX2_faultOfArguments_42 : decode cX2_faultOfArguments 42 = .ok (.getfield 39, 3) := by decide +kernel
theorem dX2_faultOfArguments_45 : decode cX2_faultOfArguments 45 = .ok (.getfield 99, 3) := by decide +kernel
theorem dX2_faultOfArguments_48 : decode cX2_faultOfArguments 48 = .ok (.iload_n 1, 1) := by decide +kernel
theorem dX2_faultOfArguments_49 : decode cX2_faultOfArguments 49 = .ok (.iaload, 1) := by decide +kernel
theorem dX2_faultOfArguments_50 : decode cX2_faultOfArguments 50 = .ok (.iaload, 1) := by decide +kernel
theorem dX2_faultOfArguments_51 : decode cX2_faultOfArguments 51 = .ok (.if_icmp .eq 5, 3) := by decide +kernel
theorem dX2_faultOfArguments_54 : decode cX2_faultOfArguments 54 = .ok (.iconst 4, 1) := by decide +kernel
theorem dX2_faultOfArguments_55 : decode cX2_faultOfArguments 55 = .ok (.ireturn, 1) := by decide +kernel
theorem dX2_faultOfArguments_56 : decode cX2_faultOfArguments 56 = .ok (.aload_n 0, 1) := by decide +kernel
theorem dX2_faultOfArguments_57 : decode cX2_faultOfArguments 57 = .ok (.getfield 35, 3) := by decide +kernel
theorem dX2_faultOfArguments_60 : decode cX2_faultOfArguments 60 = .ok (.getfield 111, 3) := by decide +kernel
theorem dX2_faultOfArguments_63 : decode cX2_faultOfArguments 63 = .ok (.iload_n 1, 1) := by decide +kernel
theorem dX2_faultOfArguments_64 : decode cX2_faultOfArguments 64 = .ok (.iaload, 1) := by decide +kernel
theorem dX2_faultOfArguments_65 : decode cX2_faultOfArguments 65 = .ok (.istore 4, 2) := by decide +kernel
theorem dX2_faultOfArguments_67 : decode cX2_faultOfArguments 67 = .ok (.iconst 0, 1) := by decide +kernel
theorem dX2_faultOfArguments_68 : decode cX2_faultOfArguments 68 = .ok (.istore 5, 2) := by decide +kernel
theorem dX2_faultOfArguments_70 : decode cX2_faultOfArguments 70 = .ok (.iload 5, 2) := by decide +kernel
theorem dX2_faultOfArguments_72 : decode cX2_faultOfArguments 72 = .ok (.iload_n 3, 1) := by decide +kernel
theorem dX2_faultOfArguments_73 : decode cX2_faultOfArguments 73 = .ok (.if_icmp .ge 64, 3) := by decide +kernel
theorem dX2_faultOfArguments_76 : decode cX2_faultOfArguments 76 = .ok (.iload 4, 2) := by decide +kernel
theorem dX2_faultOfArguments_78 : decode cX2_faultOfArguments 78 = .ok (.iconst (-1), 1) := by decide +kernel
theorem dX2_faultOfArguments_79 : decode cX2_faultOfArguments 79 = .ok (.if_icmp .eq 58, 3) := by decide +kernel
theorem dX2_faultOfArguments_82 : decode cX2_faultOfArguments 82 = .ok (.aload_n 0, 1) := by decide +kernel
theorem dX2_faultOfArguments_83 : decode cX2_faultOfArguments 83 = .ok (.aload_n 0, 1) := by decide +kernel
theorem dX2_faultOfArguments_84 : decode cX2_faultOfArguments 84 = .ok (.getfield 35, 3) := by decide +kernel
theorem dX2_faultOfArguments_87 : decode cX2_faultOfArguments 87 = .ok (.getfield 111, 3) := by decide +kernel
theorem dX2_faultOfArguments_90 : decode cX2_faultOfArguments 90 = .ok (.iload 4, 2) := by decide +kernel
theorem dX2_faultOfArguments_92 : decode cX2_faultOfArguments 92 = .ok (.iaload, 1) := by decide +kernel
theorem dX2_faultOfArguments_93 : decode cX2_faultOfArguments 93 = .ok (.iload_n 2, 1) := by decide +kernel
theorem dX2_faultOfArguments_94 : decode cX2_faultOfArguments 94 = .ok (.ifCond .eq 16, 3) := by decide +kernel
theorem dX2_faultOfArguments_97 : decode cX2_faultOfArguments 97 = .ok (.aload_n 0, 1) := by decide +kernel
theorem dX2_faultOfArguments_98 : decode cX2_faultOfArguments 98 = .ok (.getfield 39, 3) := by decide +kernel
theorem dX2_faultOfArguments_101 : decode cX2_faultOfArguments 101 = .ok (.getfield 114, 3) := by decide +kernel
theorem dX2_faultOfArguments_104 : decode cX2_faultOfArguments 104 = .ok (.iload 4, 2) := by decide +kernel
theorem dX2_faultOfArguments_106 : decode cX2_faultOfArguments 106 = .ok (.iaload, 1) := by decide +kernel
theorem dX2_faultOfArguments_107 : decode cX2_faultOfArguments 107 = .ok (.goto 4, 3) := by decide +kernel
theorem dX2_faultOfArguments_110 : decode cX2_faultOfArguments 110 = .ok (.iconst 0, 1) := by decide +kernel
theorem dX2_faultOfArguments_111 : decode cX2_faultOfArguments 111 = .ok (.invokevirtual 117, 3) := by decide +kernel
theorem dX2_faultOfArguments_114 : decode cX2_faultOfArguments 114 = .ok (.ifCond .ne 5, 3) := by decide +kernel
theorem dX2_faultOfArguments_117 : decode cX2_faultOfArguments 117 = .ok (.iconst 5, 1) := by decide +kernel
theorem dX2_faultOfArguments_118 : decode cX2_faultOfArguments 118 = .ok (.ireturn, 1) := by decide +kernel
theorem dX2_faultOfArguments_119 : decode cX2_faultOfArguments 119 = .ok (.aload_n 0, 1) := by decide +kernel
theorem dX2_faultOfArguments_120 : decode cX2_faultOfArguments 120 = .ok (.getfield 35, 3) := by decide +kernel
theorem dX2_faultOfArguments_123 : decode cX2_faultOfArguments 123 = .ok (.getfield 121, 3) := by decide +kernel
theorem dX2_faultOfArguments_126 : decode cX2_faultOfArguments 126 = .ok (.iload 4, 2) := by decide +kernel
theorem dX2_faultOfArguments_128 : decode cX2_faultOfArguments 128 = .ok (.iaload, 1) := by decide +kernel
theorem dX2_faultOfArguments_129 : decode cX2_faultOfArguments 129 = .ok (.istore 4, 2) := by decide +kernel
theorem dX2_faultOfArguments_131 : decode cX2_faultOfArguments 131 = .ok (.iinc 5 1, 3) := by decide +kernel
theorem dX2_faultOfArguments_134 : decode cX2_faultOfArguments 134 = .ok (.goto (-64), 3) := by decide +kernel
theorem dX2_faultOfArguments_137 : decode cX2_faultOfArguments 137 = .ok (.iconst 0, 1) := by decide +kernel
theorem dX2_faultOfArguments_138 : decode cX2_faultOfArguments 138 = .ok (.ireturn, 1) := by decide +kernel
set_option maxRecDepth 20000 in
theorem ggX2_suits_X2_isToBeSet : GoodIn wsX2_suits wsX2_isToBeSet := goodIn_r _ [8] (by decide +kernel) (by decide +kernel)
set_option maxRecDepth 20000 in
theorem gX2_suits_X2_isToBeSet : GoodIn wsX2_suits (va_wsS RX2 93 yX2_isToBeSet wsX2_isToBeSet) := goodIn_app (goodIn_of _ (by decide +kernel)) ggX2_suits_X2_isToBeSet
set_option maxRecDepth 20000 in
theorem ggX2_suits_X5_isExpression : GoodIn wsX2_suits wsX5_isExpression := goodIn_r _ [13, 14, 24, 25, 26, 27, 28, 29, 30] (by decide +kernel) (by decide +kernel)
set_option maxRecDepth 20000 in
theorem gX2_suits_X5_isExpression : GoodIn wsX2_suits (wsV RX2 124 RX5 yX5_isExpression wsX5_isExpression) := goodIn_app (goodIn_of _ (by decide +kernel)) ggX2_suits_X5_isExpression
theorem dX2_suits_0 : decode cX2_suits 0 = .ok (.iload_n 2, 1) := by decide +kernel
theorem dX2_suits_1 : decode cX2_suits 1 = .ok (.tableswitch 122 1 5 #[35, 122, 82, 82, 102], 35) := by decide +kernel
theorem dX2_suits_36 : decode cX2_suits 36 = .ok (.aload_n 0, 1) := by decide +kernel
theorem dX2_suits_37 : decode cX2_suits 37 = .ok (.getfield 35, 3) := by decide +kernel
theorem dX2_suits_40 : decode cX2_suits 40 = .ok (.getfield 72, 3) := by decide +kernel
theorem dX2_suits_43 : decode cX2_suits 43 = .ok (.iload_n 1, 1) := by decide +kernel
theorem dX2_suits_44 : decode cX2_suits 44 = .ok (.iaload, 1) := by decide +kernel
theorem dX2_suits_45 : decode cX2_suits 45 = .ok (.iconst 2, 1) := by decide +kernel
theorem dX2_suits_46 : decode cX2_suits 46 = .ok (.if_icmp .eq 31, 3) := by decide +kernel
theorem dX2_suits_49 : decode cX2_suits 49 = .ok (.aload_n 0, 1) := by decide +kernel
theorem dX2_suits_50 : decode cX2_suits 50 = .ok (.getfield 35, 3) := by decide +kernel
theorem dX2_suits_53 : decode cX2_suits 53 = .ok (.getfield 72, 3) := by decide +kernel
theorem dX2_suits_56 : decode cX2_suits 56 = .ok (.iload_n 1, 1) := by decide +kernel
theorem dX2_suits_57 : decode cX2_suits 57 = .ok (.iaload, 1) := by decide +kernel
theorem dX2_suits_58 : decode cX2_suits 58 = .ok (.iconst 1, 1) := by decide +kernel
theorem dX2_suits_59 : decode cX2_suits 59 = .ok (.if_icmp .ne 22, 3) := by decide +kernel
theorem dX2_suits_62 : decode cX2_suits 62 = .ok (.aload_n 0, 1) := by decide +kernel
theorem dX2_suits_63 : decode cX2_suits 63 = .ok (.getfield 39, 3) := by decide +kernel
theorem dX2_suits_66 : decode cX2_suits 66 = .ok (.getfield 79, 3) := by decide +kernel
theorem dX2_suits_69 : decode cX2_suits 69 = .ok (.iload_n 1, 1) := by decide +kernel
theorem dX2_suits_70 : decode cX2_suits 70 = .ok (.iaload, 1) := by decide +kernel
theorem dX2_suits_71 : decode cX2_suits 71 = .ok (.invokestatic 93, 3) := by decide +kernel
theorem dX2_suits_74 : decode cX2_suits 74 = .ok (.ifCond .eq 7, 3) := by decide +kernel
theorem dX2_suits_77 : decode cX2_suits 77 = .ok (.iconst 1, 1) := by decide +kernel
theorem dX2_suits_78 : decode cX2_suits 78 = .ok (.goto 4, 3) := by decide +kernel
theorem dX2_suits_81 : decode cX2_suits 81 = .ok (.iconst 0, 1) := by decide +kernel
theorem dX2_suits_82 : decode cX2_suits 82 = .ok (.ireturn, 1) := by decide +kernel
theorem dX2_suits_83 : decode cX2_suits 83 = .ok (.aload_n 0, 1) := by decide +kernel
theorem dX2_suits_84 : decode cX2_suits 84 = .ok (.getfield 35, 3) := by decide +kernel
theorem dX2_suits_87 : decode cX2_suits 87 = .ok (.getfield 72, 3) := by decide +kernel
theorem dX2_suits_90 : decode cX2_suits 90 = .ok (.iload_n 1, 1) := by decide +kernel
theorem dX2_suits_91 : decode cX2_suits 91 = .ok (.iaload, 1) := by decide +kernel
theorem dX2_suits_92 : decode cX2_suits 92 = .ok (.bipush 11, 2) := by decide +kernel
theorem dX2_suits_94 : decode cX2_suits 94 = .ok (.if_icmp .ne 7, 3) := by decide +kernel
theorem dX2_suits_97 : decode cX2_suits 97 = .ok (.iconst 1, 1) := by decide +kernel
theorem dX2_suits_98 : decode cX2_suits 98 = .ok (.goto 4, 3) := by decide +kernel
theorem dX2_suits_101 : decode cX2_suits 101 = .ok (.iconst 0, 1) := by decide +kernel
theorem dX2_suits_102 : decode cX2_suits 102 = .ok (.ireturn, 1) := by decide +kernel
theorem dX2_suits_103 : decode cX2_suits 103 = .ok (.aload_n 0, 1) := by decide +kernel
theorem dX2_suits_104 : decode cX2_suits 104 = .ok (.getfield 35, 3) := by decide +kernel
theorem dX2_suits_107 : decode cX2_suits 107 = .ok (.getfield 72, 3) := by decide +kernel
theorem dX2_suits_110 : decode cX2_suits 110 = .ok (.iload_n 1, 1) := by decide +kernel
theorem dX2_suits_111 : decode cX2_suits 111 = .ok (.iaload, 1) := by decide +kernel
theorem dX2_suits_112 : decode cX2_suits 112 = .ok (.bipush 10, 2) := by decide +kernel
theorem dX2_suits_114 : decode cX2_suits 114 = .ok (.if_icmp .ne 7, 3) := by decide +kernel
theorem dX2_suits_117 : decode cX2_suits 117 = .ok (.iconst 1, 1) := by decide +kernel
theorem dX2_suits_118 : decode cX2_suits 118 = .ok (.goto 4, 3) := by decide +kernel
theorem dX2_suits_121 : decode cX2_suits 121 = .ok (.iconst 0, 1) := by decide +kernel
theorem dX2_suits_122 : decode cX2_suits 122 = .ok (.ireturn, 1) := by decide +kernel
theorem dX2_suits_123 : decode cX2_suits 123 = .ok (.aload_n 0, 1) := by decide +kernel
theorem dX2_suits_124 : decode cX2_suits 124 = .ok (.getfield 35, 3) := by decide +kernel
theorem dX2_suits_127 : decode cX2_suits 127 = .ok (.iload_n 1, 1) := by decide +kernel
theorem dX2_suits_128 : decode cX2_suits 128 = .ok (.invokevirtual 124, 3) := by decide +kernel
theorem dX2_suits_131 : decode cX2_suits 131 = .ok (.ireturn, 1) := by decide +kernel
