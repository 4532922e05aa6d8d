theorem dX0_init_0 : decode cX0_init 0 = .ok (.aload_n 0, 1) := by decide +kernel
theorem dX0_init_1 : decode cX0_init 1 = .ok (.invokespecial 3, 3) := by decide +kernel
theorem dX0_init_4 : decode cX0_init 4 = .ok (.aload_n 0, 1) := by decide +kernel
theorem dX0_init_5 : decode cX0_init 5 = .ok (.iconst (-1), 1) := by decide +kernel
theorem dX0_init_6 : decode cX0_init 6 = .ok (.putfield 9, 3) := by decide +kernel
theorem dX0_init_9 : decode cX0_init 9 = .ok (.aload_n 0, 1) := by decide +kernel
theorem dX0_init_10 : decode cX0_init 10 = .ok (.iconst 0, 1) := by decide +kernel
theorem dX0_init_11 : decode cX0_init 11 = .ok (.putfield 15, 3) := by decide +kernel
theorem dX0_init_14 : decode cX0_init 14 = .ok (.aload_n 0, 1) := by decide +kernel
theorem dX0_init_15 : decode cX0_init 15 = .ok (.bipush 10, 2) := by decide +kernel
theorem dX0_init_17 : decode cX0_init 17 = .ok (.newarray .int, 2) := by decide +kernel
theorem dX0_init_19 : decode cX0_init 19 = .ok (.putfield 18, 3) := by decide +kernel
theorem dX0_init_22 : decode cX0_init 22 = .ok (.aload_n 0, 1) := by decide +kernel
theorem dX0_init_23 : decode cX0_init 23 = .ok (.bipush 10, 2) := by decide +kernel
theorem dX0_init_25 : decode cX0_init 25 = .ok (.newarray .int, 2) := by decide +kernel
theorem dX0_init_27 : decode cX0_init 27 = .ok (.putfield 22, 3) := by decide +kernel
theorem dX0_init_30 : decode cX0_init 30 = .ok (.aload_n 0, 1) := by decide +kernel
theorem dX0_init_31 : decode cX0_init 31 = .ok (.sipush 460, 3) := by decide +kernel
theorem dX0_init_34 : decode cX0_init 34 = .ok (.newarray .int, 2) := by decide +kernel
theorem dX0_init_36 : decode cX0_init 36 = .ok (.putfield 25, 3) := by decide +kernel
theorem dX0_init_39 : decode cX0_init 39 = .ok (.aload_n 0, 1) := by decide +kernel
theorem dX0_init_40 : decode cX0_init 40 = .ok (.sipush 460, 3) := by decide +kernel
theorem dX0_init_43 : decode cX0_init 43 = .ok (.newarray .int, 2) := by decide +kernel
theorem dX0_init_45 : decode cX0_init 45 = .ok (.putfield 28, 3) := by decide +kernel
theorem dX0_init_48 : decode cX0_init 48 = .ok (.aload_n 0, 1) := by decide +kernel
theorem dX0_init_49 : decode cX0_init 49 = .ok (.sipush 460, 3) := by decide +kernel
theorem dX0_init_52 : decode cX0_init 52 = .ok (.newarray .int, 2) := by decide +kernel
theorem dX0_init_54 : decode cX0_init 54 = .ok (.putfield 31, 3) := by decide +kernel
theorem dX0_init_57 : decode cX0_init 57 = .ok (.aload_n 0, 1) := by decide +kernel
theorem dX0_init_58 : decode cX0_init 58 = .ok (.sipush 460, 3) := by decide +kernel
theorem dX0_init_61 : decode cX0_init 61 = .ok (.newarray .int, 2) := by decide +kernel
theorem dX0_init_63 : decode cX0_init 63 = .ok (.putfield 34, 3) := by decide +kernel
theorem dX0_init_66 : decode cX0_init 66 = .ok (.aload_n 0, 1) := by decide +kernel
theorem dX0_init_67 : decode cX0_init 67 = .ok (.sipush 460, 3) := by decide +kernel
theorem dX0_init_70 : decode cX0_init 70 = .ok (.newarray .int, 2) := by decide +kernel
theorem dX0_init_72 : decode cX0_init 72 = .ok (.putfield 37, 3) := by decide +kernel
theorem dX0_init_75 : decode cX0_init 75 = .ok (.aload_n 0, 1) := by decide +kernel
theorem dX0_init_76 : decode cX0_init 76 = .ok (.sipush 460, 3) := by decide +kernel
theorem dX0_init_79 : decode cX0_init 79 = .ok (.newarray .int, 2) := by decide +kernel
theorem dX0_init_81 : decode cX0_init 81 = .ok (.putfield 40, 3) := by decide +kernel
theorem dX0_init_84 : decode cX0_init 84 = .ok (.aload_n 0, 1) := by decide +kernel
theorem dX0_init_85 : decode cX0_init 85 = .ok (.bipush 110, 2) := by decide +kernel
theorem dX0_init_87 : decode cX0_init 87 = .ok (.newarray .int, 2) := by decide +kernel
theorem dX0_init_89 : decode cX0_init 89 = .ok (.putfield 43, 3) := by decide +kernel
theorem dX0_init_92 : decode cX0_init 92 = .ok (.aload_n 0, 1) := by decide +kernel
theorem dX0_init_93 : decode cX0_init 93 = .ok (.bipush 110, 2) := by decide +kernel
theorem dX0_init_95 : decode cX0_init 95 = .ok (.newarray .int, 2) := by decide +kernel
theorem dX0_init_97 : decode cX0_init 97 = .ok (.putfield 46, 3) := by decide +kernel
theorem dX0_init_100 : decode cX0_init 100 = .ok (.aload_n 0, 1) := by decide +kernel
theorem dX0_init_101 : decode cX0_init 101 = .ok (.bipush 110, 2) := by decide +kernel
theorem dX0_init_103 : decode cX0_init 103 = .ok (.newarray .int, 2) := by decide +kernel
theorem dX0_init_105 : decode cX0_init 105 = .ok (.putfield 49, 3) := by decide +kernel
theorem dX0_init_108 : decode cX0_init 108 = .ok (.aload_n 0, 1) := by decide +kernel
theorem dX0_init_109 : decode cX0_init 109 = .ok (.bipush 110, 2) := by decide +kernel
theorem dX0_init_111 : decode cX0_init 111 = .ok (.newarray .boolean, 2) := by decide +kernel
theorem dX0_init_113 : decode cX0_init 113 = .ok (.putfield 52, 3) := by decide +kernel
theorem dX0_init_116 : decode cX0_init 116 = .ok (.aload_n 0, 1) := by decide +kernel
theorem dX0_init_117 : decode cX0_init 117 = .ok (.aload_n 1, 1) := by decide +kernel
theorem dX0_init_118 : decode cX0_init 118 = .ok (.putfield 56, 3) := by decide +kernel
theorem dX0_init_121 : decode cX0_init 121 = .ok (.aload_n 0, 1) := by decide +kernel
theorem dX0_init_122 : decode cX0_init 122 = .ok (.aload_n 2, 1) := by decide +kernel
theorem dX0_init_123 : decode cX0_init 123 = .ok (.putfield 60, 3) := by decide +kernel
theorem dX0_init_126 : decode cX0_init 126 = .ok (.aload_n 0, 1) := by decide +kernel
theorem dX0_init_127 : decode cX0_init 127 = .ok (.aload_n 3, 1) := by decide +kernel
theorem dX0_init_128 : decode cX0_init 128 = .ok (.putfield 64, 3) := by decide +kernel
theorem dX0_init_131 : decode cX0_init 131 = .ok (.return_, 1) := by decide +kernel
theorem dX0_forget_0 : decode cX0_forget 0 = .ok (.aload_n 0, 1) := by decide +kernel
theorem dX0_forget_1 : decode cX0_forget 1 = .ok (.iconst (-1), 1) := by decide +kernel
theorem dX0_forget_2 : decode cX0_forget 2 = .ok (.putfield 9, 3) := by decide +kernel
theorem dX0_forget_5 : decode cX0_forget 5 = .ok (.return_, 1) := by decide +kernel
set_option maxRecDepth 20000 in
theorem ggX0_layOut_X0_isPushed : GoodIn wsX0_layOut wsX0_isPushed := goodIn_r _ [12, 6, 13, 1, 137, 138, 139, 140, 141, 142, 143, 144, 145, 146, 147, 148, 149, 150, 151, 152, 153, 161, 162, 163, 164, 165, 166, 167, 168, 169, 170, 171, 172, 173, 174, 175, 176, 177, 178, 179] (by decide +kernel) (by decide +kernel)
set_option maxRecDepth 20000 in
theorem gX0_layOut_X0_isPushed : GoodIn wsX0_layOut (wsV RX0 73 RX0 yX0_isPushed wsX0_isPushed) := goodIn_app (goodIn_of _ (by decide +kernel)) ggX0_layOut_X0_isPushed
set_option maxRecDepth 20000 in
theorem ggX0_layOut_X5_partA : GoodIn wsX0_layOut wsX5_partA := goodIn_r _ [18, 19, 20, 21, 154, 155, 156, 157, 158, 159, 160] (by decide +kernel) (by decide +kernel)
set_option maxRecDepth 20000 in
theorem gX0_layOut_X5_partA : GoodIn wsX0_layOut (wsV RX0 77 RX5 yX5_partA wsX5_partA) := goodIn_app (goodIn_of _ (by decide +kernel)) ggX0_layOut_X5_partA
set_option maxRecDepth 20000 in
theorem ggX0_layOut_X0_lengthOfPart : GoodIn wsX0_layOut wsX0_lengthOfPart := goodIn_r _ [25, 4, 137, 138, 139, 140, 141, 142, 143, 144, 145, 146, 147, 148, 149, 150, 151, 152, 153] (by decide +kernel) (by decide +kernel)
set_option maxRecDepth 20000 in
theorem gX0_layOut_X0_lengthOfPart : GoodIn wsX0_layOut (wsV RX0 81 RX0 yX0_lengthOfPart wsX0_lengthOfPart) := goodIn_app (goodIn_of _ (by decide +kernel)) ggX0_layOut_X0_lengthOfPart
set_option maxRecDepth 20000 in
theorem ggX0_layOut_X5_partB : GoodIn wsX0_layOut wsX5_partB := goodIn_r _ [29, 30, 20, 31, 154, 155, 156, 157, 158, 159, 160] (by decide +kernel) (by decide +kernel)
set_option maxRecDepth 20000 in
theorem gX0_layOut_X5_partB : GoodIn wsX0_layOut (wsV RX0 84 RX5 yX5_partB wsX5_partB) := goodIn_app (goodIn_of _ (by decide +kernel)) ggX0_layOut_X5_partB
set_option maxRecDepth 20000 in
theorem ggX0_layOut_X5_partC : GoodIn wsX0_layOut wsX5_partC := goodIn_r _ [35, 36, 20, 37, 154, 155, 156, 157, 158, 159, 160] (by decide +kernel) (by decide +kernel)
set_option maxRecDepth 20000 in
theorem gX0_layOut_X5_partC : GoodIn wsX0_layOut (wsV RX0 87 RX5 yX5_partC wsX5_partC) := goodIn_app (goodIn_of _ (by decide +kernel)) ggX0_layOut_X5_partC
set_option maxRecDepth 20000 in
theorem ggX0_layOut_X0_ownLength : GoodIn wsX0_layOut wsX0_ownLength := goodIn_r _ [41, 2, 42, 6, 43, 44, 45, 46, 47, 11, 48, 49, 1, 137, 138, 139, 140, 141, 142, 143, 144, 145, 146, 147, 148, 149, 150, 151, 152, 153, 154, 155, 156, 157, 158, 159, 160, 161, 162, 163, 164, 165, 166, 167, 168, 169, 170, 171, 172, 173, 174, 175, 176, 177, 178, 179] (by decide +kernel) (by decide +kernel)
set_option maxRecDepth 20000 in
theorem gX0_layOut_X0_ownLength : GoodIn wsX0_layOut (wsV RX0 90 RX0 yX0_ownLength wsX0_ownLength) := goodIn_app (goodIn_of _ (by decide +kernel)) ggX0_layOut_X0_ownLength
set_option maxRecDepth 20000 in
theorem ggX0_layOut_X0_placeProcedures : GoodIn wsX0_layOut wsX0_placeProcedures := goodIn_r _ [53, 54, 55, 56, 57, 58, 59, 60, 22, 23, 24, 11, 25, 4, 61, 62, 63, 64, 65, 66, 67, 68, 69, 70, 71, 72, 73, 74, 137, 138, 139, 140, 141, 142, 143, 144, 145, 146, 147, 148, 149, 150, 151, 152, 153, 180, 181, 182, 183, 184, 185, 186, 187, 188, 189, 190, 191] (by decide +kernel) (by decide +kernel)
set_option maxRecDepth 20000 in
theorem gX0_layOut_X0_placeProcedures : GoodIn wsX0_layOut (wsV RX0 93 RX0 yX0_placeProcedures wsX0_placeProcedures) := goodIn_app (goodIn_of _ (by decide +kernel)) ggX0_layOut_X0_placeProcedures
set_option maxRecDepth 20000 in
theorem ggX0_layOut_X0_placeParts : GoodIn wsX0_layOut wsX0_placeParts := goodIn_r _ [78, 60, 5, 2, 42, 6, 43, 8, 9, 10, 11, 12, 13, 1, 26, 27, 28, 17, 29, 30, 20, 31, 79, 80, 81, 82, 32, 33, 34, 35, 36, 37, 22, 23, 24, 25, 4, 83, 84, 85, 86, 14, 15, 16, 18, 19, 21, 137, 138, 139, 140, 141, 142, 143, 144, 145, 146, 147, 148, 149, 150, 151, 152, 153, 154, 155, 156, 157, 158, 159, 160, 161, 162, 163, 164, 165, 166, 167, 168, 169, 170, 171, 172, 173, 174, 175, 176, 177, 178, 179] (by decide +kernel) (by decide +kernel)
set_option maxRecDepth 20000 in
theorem gX0_layOut_X0_placeParts : GoodIn wsX0_layOut (wsV RX0 101 RX0 yX0_placeParts wsX0_placeParts) := goodIn_app (goodIn_of _ (by decide +kernel)) ggX0_layOut_X0_placeParts
set_option maxRecDepth 20000 in
theorem ggX0_layOut_X0_noteBegin : GoodIn wsX0_layOut wsX0_noteBegin := goodIn_r _ [90, 60, 91, 65, 66, 137, 138, 139, 140, 141, 142, 143, 144, 145, 146, 147, 148, 149, 150, 151, 152, 153] (by decide +kernel) (by decide +kernel)
set_option maxRecDepth 20000 in
theorem gX0_layOut_X0_noteBegin : GoodIn wsX0_layOut (wsV RX0 105 RX0 yX0_noteBegin wsX0_noteBegin) := goodIn_app (goodIn_of _ (by decide +kernel)) ggX0_layOut_X0_noteBegin
set_option maxRecDepth 20000 in
theorem ggX0_layOut_X0_write : GoodIn wsX0_layOut wsX0_write := goodIn_r _ [95, 60, 4, 5, 6, 96, 2, 42, 8, 9, 10, 11, 12, 13, 1, 67, 68, 69, 70, 71, 72, 73, 74, 97, 98, 99, 100, 44, 101, 102, 103, 104, 105, 106, 107, 108, 109, 110, 111, 112, 113, 114, 115, 116, 117, 118, 119, 120, 121, 43, 122, 58, 7, 45, 46, 47, 48, 49, 123, 124, 125, 126, 127, 128, 129, 130, 131, 132, 133, 134, 135, 136, 137, 138, 139, 140, 141, 142, 143, 144, 145, 146, 147, 148, 149, 150, 151, 152, 153, 161, 162, 163, 164, 165, 166, 167, 168, 169, 170, 171, 172, 173, 174, 175, 176, 177, 178, 179, 154, 155, 156, 157, 158, 159, 160] (by decide +kernel) (by decide +kernel)
set_option maxRecDepth 20000 in
theorem gX0_layOut_X0_write : GoodIn wsX0_layOut (wsV RX0 108 RX0 yX0_write wsX0_write) := goodIn_app (goodIn_of _ (by decide +kernel)) ggX0_layOut_X0_write
theorem dX0_layOut_0 : decode cX0_layOut 0 = .ok (.aload_n 0, 1) := by decide +kernel
theorem dX0_layOut_1 : decode cX0_layOut 1 = .ok (.getfield 9, 3) := by decide +kernel
theorem dX0_layOut_4 : decode cX0_layOut 4 = .ok (.iload_n 1, 1) := by decide +kernel
theorem dX0_layOut_5 : decode cX0_layOut 5 = .ok (.if_icmp .ne 4, 3) := by decide +kernel
theorem dX0_layOut_8 : decode cX0_layOut 8 = .ok (.return_, 1) := by decide +kernel
theorem dX0_layOut_9 : decode cX0_layOut 9 = .ok (.aload_n 0, 1) := by decide +kernel
theorem dX0_layOut_10 : decode cX0_layOut 10 = .ok (.iload_n 1, 1) := by decide +kernel
theorem dX0_layOut_11 : decode cX0_layOut 11 = .ok (.putfield 9, 3) := by decide +kernel
theorem dX0_layOut_14 : decode cX0_layOut 14 = .ok (.iconst 0, 1) := by decide +kernel
theorem dX0_layOut_15 : decode cX0_layOut 15 = .ok (.istore_n 2, 1) := by decide +kernel
theorem dX0_layOut_16 : decode cX0_layOut 16 = .ok (.iload_n 2, 1) := by decide +kernel
theorem dX0_layOut_17 : decode cX0_layOut 17 = .ok (.aload_n 0, 1) := by decide +kernel
theorem dX0_layOut_18 : decode cX0_layOut 18 = .ok (.getfield 60, 3) := by decide +kernel
theorem dX0_layOut_21 : decode cX0_layOut 21 = .ok (.getfield 68, 3) := by decide +kernel
theorem dX0_layOut_24 : decode cX0_layOut 24 = .ok (.if_icmp .ge 78, 3) := by decide +kernel
theorem dX0_layOut_27 : decode cX0_layOut 27 = .ok (.aload_n 0, 1) := by decide +kernel
theorem dX0_layOut_28 : decode cX0_layOut 28 = .ok (.getfield 46, 3) := by decide +kernel
theorem dX0_layOut_31 : decode cX0_layOut 31 = .ok (.iload_n 2, 1) := by decide +kernel
theorem dX0_layOut_32 : decode cX0_layOut 32 = .ok (.aload_n 0, 1) := by decide +kernel
theorem dX0_layOut_33 : decode cX0_layOut 33 = .ok (.iload_n 2, 1) := by decide +kernel
theorem dX0_layOut_34 : decode cX0_layOut 34 = .ok (.invokevirtual 73, 3) := by decide +kernel
theorem dX0_layOut_37 : decode cX0_layOut 37 = .ok (.ifCond .eq 7, 3) := by decide +kernel
theorem dX0_layOut_40 : decode cX0_layOut 40 = .ok (.iconst 1, 1) := by decide +kernel
theorem dX0_layOut_41 : decode cX0_layOut 41 = .ok (.goto 47, 3) := by decide +kernel
theorem dX0_layOut_44 : decode cX0_layOut 44 = .ok (.aload_n 0, 1) := by decide +kernel
theorem dX0_layOut_45 : decode cX0_layOut 45 = .ok (.aload_n 0, 1) := by decide +kernel
theorem dX0_layOut_46 : decode cX0_layOut 46 = .ok (.getfield 60, 3) := by decide +kernel
theorem dX0_layOut_49 : decode cX0_layOut 49 = .ok (.iload_n 2, 1) := by decide +kernel
theorem dX0_layOut_50 : decode cX0_layOut 50 = .ok (.invokevirtual 77, 3) := by decide +kernel
theorem dX0_layOut_53 : decode cX0_layOut 53 = .ok (.invokevirtual 81, 3) := by decide +kernel
theorem dX0_layOut_56 : decode cX0_layOut 56 = .ok (.aload_n 0, 1) := by decide +kernel
theorem dX0_layOut_57 : decode cX0_layOut 57 = .ok (.aload_n 0, 1) := by decide +kernel
theorem dX0_layOut_58 : decode cX0_layOut 58 = .ok (.getfield 60, 3) := by decide +kernel
theorem dX0_layOut_61 : decode cX0_layOut 61 = .ok (.iload_n 2, 1) := by decide +kernel
theorem dX0_layOut_62 : decode cX0_layOut 62 = .ok (.invokevirtual 84, 3) := by decide +kernel
theorem dX0_layOut_65 : decode cX0_layOut 65 = .ok (.invokevirtual 81, 3) := by decide +kernel
theorem dX0_layOut_68 : decode cX0_layOut 68 = .ok (.iadd, 1) := by decide +kernel
theorem dX0_layOut_69 : decode cX0_layOut 69 = .ok (.aload_n 0, 1) := by decide +kernel
theorem dX0_layOut_70 : decode cX0_layOut 70 = .ok (.aload_n 0, 1) := by decide +kernel
theorem dX0_layOut_71 : decode cX0_layOut 71 = .ok (.getfield 60, 3) := by decide +kernel
theorem dX0_layOut_74 : decode cX0_layOut 74 = .ok (.iload_n 2, 1) := by decide +kernel
theorem dX0_layOut_75 : decode cX0_layOut 75 = .ok (.invokevirtual 87, 3) := by decide +kernel
theorem dX0_layOut_78 : decode cX0_layOut 78 = .ok (.invokevirtual 81, 3) := by decide +kernel
theorem dX0_layOut_81 : decode cX0_layOut 81 = .ok (.iadd, 1) := by decide +kernel
theorem dX0_layOut_82 : decode cX0_layOut 82 = .ok (.aload_n 0, 1) := by decide +kernel
theorem dX0_layOut_83 : decode cX0_layOut 83 = .ok (.iload_n 2, 1) := by decide +kernel
theorem dX0_layOut_84 : decode cX0_layOut 84 = .ok (.invokevirtual 90, 3) := by decide +kernel
theorem dX0_layOut_87 : decode cX0_layOut 87 = .ok (.iadd, 1) := by decide +kernel
theorem dX0_layOut_88 : decode cX0_layOut 88 = .ok (.iastore, 1) := by decide +kernel
theorem dX0_layOut_89 : decode cX0_layOut 89 = .ok (.aload_n 0, 1) := by decide +kernel
theorem dX0_layOut_90 : decode cX0_layOut 90 = .ok (.getfield 52, 3) := by decide +kernel
theorem dX0_layOut_93 : decode cX0_layOut 93 = .ok (.iload_n 2, 1) := by decide +kernel
theorem dX0_layOut_94 : decode cX0_layOut 94 = .ok (.iconst 0, 1) := by decide +kernel
theorem dX0_layOut_95 : decode cX0_layOut 95 = .ok (.bastore, 1) := by decide +kernel
theorem dX0_layOut_96 : decode cX0_layOut 96 = .ok (.iinc 2 1, 3) := by decide +kernel
theorem dX0_layOut_99 : decode cX0_layOut 99 = .ok (.goto (-83), 3) := by decide +kernel
theorem dX0_layOut_102 : decode cX0_layOut 102 = .ok (.aload_n 0, 1) := by decide +kernel
theorem dX0_layOut_103 : decode cX0_layOut 103 = .ok (.invokevirtual 93, 3) := by decide +kernel
theorem dX0_layOut_106 : decode cX0_layOut 106 = .ok (.aload_n 0, 1) := by decide +kernel
theorem dX0_layOut_107 : decode cX0_layOut 107 = .ok (.getfield 60, 3) := by decide +kernel
theorem dX0_layOut_110 : decode cX0_layOut 110 = .ok (.getfield 68, 3) := by decide +kernel
theorem dX0_layOut_113 : decode cX0_layOut 113 = .ok (.iconst 1, 1) := by decide +kernel
theorem dX0_layOut_114 : decode cX0_layOut 114 = .ok (.isub, 1) := by decide +kernel
theorem dX0_layOut_115 : decode cX0_layOut 115 = .ok (.istore_n 2, 1) := by decide +kernel
theorem dX0_layOut_116 : decode cX0_layOut 116 = .ok (.iload_n 2, 1) := by decide +kernel
theorem dX0_layOut_117 : decode cX0_layOut 117 = .ok (.ifCond .lt 27, 3) := by decide +kernel
theorem dX0_layOut_120 : decode cX0_layOut 120 = .ok (.aload_n 0, 1) := by decide +kernel
theorem dX0_layOut_121 : decode cX0_layOut 121 = .ok (.getfield 64, 3) := by decide +kernel
theorem dX0_layOut_124 : decode cX0_layOut 124 = .ok (.getfield 96, 3) := by decide +kernel
theorem dX0_layOut_127 : decode cX0_layOut 127 = .ok (.iload_n 2, 1) := by decide +kernel
theorem dX0_layOut_128 : decode cX0_layOut 128 = .ok (.iaload, 1) := by decide +kernel
theorem dX0_layOut_129 : decode cX0_layOut 129 = .ok (.iconst (-1), 1) := by decide +kernel
theorem dX0_layOut_130 : decode cX0_layOut 130 = .ok (.if_icmp .eq 8, 3) := by decide +kernel
theorem dX0_layOut_133 : decode cX0_layOut 133 = .ok (.aload_n 0, 1) := by decide +kernel
theorem dX0_layOut_134 : decode cX0_layOut 134 = .ok (.iload_n 2, 1) := by decide +kernel
theorem dX0_layOut_135 : decode cX0_layOut 135 = .ok (.invokevirtual 101, 3) := by decide +kernel
theorem dX0_layOut_138 : decode cX0_layOut 138 = .ok (.iinc 2 (-1), 3) := by decide +kernel
theorem dX0_layOut_141 : decode cX0_layOut 141 = .ok (.goto (-25), 3) := by decide +kernel
theorem dX0_layOut_144 : decode cX0_layOut 144 = .ok (.iconst 0, 1) := by decide +kernel
theorem dX0_layOut_145 : decode cX0_layOut 145 = .ok (.istore_n 2, 1) := by decide +kernel
theorem dX0_layOut_146 : decode cX0_layOut 146 = .ok (.iload_n 2, 1) := by decide +kernel
theorem dX0_layOut_147 : decode cX0_layOut 147 = .ok (.aload_n 0, 1) := by decide +kernel
theorem dX0_layOut_148 : decode cX0_layOut 148 = .ok (.getfield 60, 3) := by decide +kernel
theorem dX0_layOut_151 : decode cX0_layOut 151 = .ok (.getfield 68, 3) := by decide +kernel
theorem dX0_layOut_154 : decode cX0_layOut 154 = .ok (.if_icmp .ge 32, 3) := by decide +kernel
theorem dX0_layOut_157 : decode cX0_layOut 157 = .ok (.aload_n 0, 1) := by decide +kernel
theorem dX0_layOut_158 : decode cX0_layOut 158 = .ok (.getfield 64, 3) := by decide +kernel
theorem dX0_layOut_161 : decode cX0_layOut 161 = .ok (.getfield 96, 3) := by decide +kernel
theorem dX0_layOut_164 : decode cX0_layOut 164 = .ok (.iload_n 2, 1) := by decide +kernel
theorem dX0_layOut_165 : decode cX0_layOut 165 = .ok (.iaload, 1) := by decide +kernel
theorem dX0_layOut_166 : decode cX0_layOut 166 = .ok (.iconst (-1), 1) := by decide +kernel
theorem dX0_layOut_167 : decode cX0_layOut 167 = .ok (.if_icmp .eq 13, 3) := by decide +kernel
theorem dX0_layOut_170 : decode cX0_layOut 170 = .ok (.aload_n 0, 1) := by decide +kernel
theorem dX0_layOut_171 : decode cX0_layOut 171 = .ok (.iload_n 2, 1) := by decide +kernel
theorem dX0_layOut_172 : decode cX0_layOut 172 = .ok (.invokevirtual 105, 3) := by decide +kernel
theorem dX0_layOut_175 : decode cX0_layOut 175 = .ok (.aload_n 0, 1) := by decide +kernel
theorem dX0_layOut_176 : decode cX0_layOut 176 = .ok (.iload_n 2, 1) := by decide +kernel
theorem dX0_layOut_177 : decode cX0_layOut 177 = .ok (.invokevirtual 108, 3) := by decide +kernel
theorem dX0_layOut_180 : decode cX0_layOut 180 = .ok (.iinc 2 1, 3) := by decide +kernel
theorem dX0_layOut_183 : decode cX0_layOut 183 = .ok (.goto (-37), 3) := by decide +kernel
theorem dX0_layOut_186 : decode cX0_layOut 186 = .ok (.return_, 1) := by decide +kernel
theorem dX0_isPushed_0 : decode cX0_isPushed 0 = .ok (.aload_n 0, 1) := by decide +kernel
theorem dX0_isPushed_1 : decode cX0_isPushed 1 = .ok (.getfield 64, 3) := by decide +kernel
theorem dX0_isPushed_4 : decode cX0_isPushed 4 = .ok (.getfield 111, 3) := by decide +kernel
theorem dX0_isPushed_7 : decode cX0_isPushed 7 = .ok (.iload_n 1, 1) := by decide +kernel
theorem dX0_isPushed_8 : decode cX0_isPushed 8 = .ok (.baload, 1) := by decide +kernel
theorem dX0_isPushed_9 : decode cX0_isPushed 9 = .ok (.ifCond .eq 16, 3) := by decide +kernel
theorem dX0_isPushed_12 : decode cX0_isPushed 12 = .ok (.aload_n 0, 1) := by decide +kernel
theorem dX0_isPushed_13 : decode cX0_isPushed 13 = .ok (.getfield 9, 3) := by decide +kernel
theorem dX0_isPushed_16 : decode cX0_isPushed 16 = .ok (.iconst 1, 1) := by decide +kernel
theorem dX0_isPushed_17 : decode cX0_isPushed 17 = .ok (.iand, 1) := by decide +kernel
theorem dX0_isPushed_18 : decode cX0_isPushed 18 = .ok (.ifCond .eq 7, 3) := by decide +kernel
theorem dX0_isPushed_21 : decode cX0_isPushed 21 = .ok (.iconst 1, 1) := by decide +kernel
theorem dX0_isPushed_22 : decode cX0_isPushed 22 = .ok (.goto 4, 3) := by decide +kernel
theorem dX0_isPushed_25 : decode cX0_isPushed 25 = .ok (.iconst 0, 1) := by decide +kernel
theorem dX0_isPushed_26 : decode cX0_isPushed 26 = .ok (.ireturn, 1) := by decide +kernel
theorem dX0_isJump_0 : decode cX0_isJump 0 = .ok (.aload_n 0, 1) := by decide +kernel
theorem dX0_isJump_1 : decode cX0_isJump 1 = .ok (.getfield 64, 3) := by decide +kernel
theorem dX0_isJump_4 : decode cX0_isJump 4 = .ok (.getfield 114, 3) := by decide +kernel
theorem dX0_isJump_7 : decode cX0_isJump 7 = .ok (.iload_n 1, 1) := by decide +kernel
theorem dX0_isJump_8 : decode cX0_isJump 8 = .ok (.baload, 1) := by decide +kernel
theorem dX0_isJump_9 : decode cX0_isJump 9 = .ok (.ifCond .eq 16, 3) := by decide +kernel
theorem dX0_isJump_12 : decode cX0_isJump 12 = .ok (.aload_n 0, 1) := by decide +kernel
theorem dX0_isJump_13 : decode cX0_isJump 13 = .ok (.getfield 9, 3) := by decide +kernel
theorem dX0_isJump_16 : decode cX0_isJump 16 = .ok (.iconst 2, 1) := by decide +kernel
theorem dX0_isJump_17 : decode cX0_isJump 17 = .ok (.iand, 1) := by decide +kernel
theorem dX0_isJump_18 : decode cX0_isJump 18 = .ok (.ifCond .eq 7, 3) := by decide +kernel
theorem dX0_isJump_21 : decode cX0_isJump 21 = .ok (.iconst 1, 1) := by decide +kernel
theorem dX0_isJump_22 : decode cX0_isJump 22 = .ok (.goto 4, 3) := by decide +kernel
theorem dX0_isJump_25 : decode cX0_isJump 25 = .ok (.iconst 0, 1) := by decide +kernel
theorem dX0_isJump_26 : decode cX0_isJump 26 = .ok (.ireturn, 1) := by decide +kernel
theorem dX0_lengthOfPart_0 : decode cX0_lengthOfPart 0 = .ok (.iload_n 1, 1) := by decide +kernel
theorem dX0_lengthOfPart_1 : decode cX0_lengthOfPart 1 = .ok (.iconst (-1), 1) := by decide +kernel
theorem dX0_lengthOfPart_2 : decode cX0_lengthOfPart 2 = .ok (.if_icmp .ne 7, 3) := by decide +kernel
theorem dX0_lengthOfPart_5 : decode cX0_lengthOfPart 5 = .ok (.iconst 0, 1) := by decide +kernel
theorem dX0_lengthOfPart_6 : decode cX0_lengthOfPart 6 = .ok (.goto 9, 3) := by decide +kernel
theorem dX0_lengthOfPart_9 : decode cX0_lengthOfPart 9 = .ok (.aload_n 0, 1) := by decide +kernel
theorem dX0_lengthOfPart_10 : decode cX0_lengthOfPart 10 = .ok (.getfield 46, 3) := by decide +kernel
theorem dX0_lengthOfPart_13 : decode cX0_lengthOfPart 13 = .ok (.iload_n 1, 1) := by decide +kernel
theorem dX0_lengthOfPart_14 : decode cX0_lengthOfPart 14 = .ok (.iaload, 1) := by decide +kernel
theorem dX0_lengthOfPart_15 : decode cX0_lengthOfPart 15 = .ok (.ireturn, 1) := by decide +kernel
set_option maxRecDepth 20000 in
theorem ggX0_ownLength_X0_isJump : GoodIn wsX0_ownLength wsX0_isJump := goodIn_r _ [10, 3, 11, 12, 13, 14, 15, 16, 17, 18, 19, 20, 21, 22, 23, 24, 25, 26, 27, 28, 29, 37, 38, 39, 40, 41, 42, 43, 44, 45, 46, 47, 48, 49, 50, 51, 52, 53, 54, 55] (by decide +kernel) (by decide +kernel)
set_option maxRecDepth 20000 in
theorem gX0_ownLength_X0_isJump : GoodIn wsX0_ownLength (wsV RX0 126 RX0 yX0_isJump wsX0_isJump) := goodIn_app (goodIn_of _ (by decide +kernel)) ggX0_ownLength_X0_isJump
theorem dX0_ownLength_0 : decode cX0_ownLength 0 = .ok (.aload_n 0, 1) := by decide +kernel
theorem dX0_ownLength_1 : decode cX0_ownLength 1 = .ok (.getfield 60, 3) := by decide +kernel
theorem dX0_ownLength_4 : decode cX0_ownLength 4 = .ok (.getfield 117, 3) := by decide +kernel
theorem dX0_ownLength_7 : decode cX0_ownLength 7 = .ok (.iload_n 1, 1) := by decide +kernel
theorem dX0_ownLength_8 : decode cX0_ownLength 8 = .ok (.iaload, 1) := by decide +kernel
theorem dX0_ownLength_9 : decode cX0_ownLength 9 = .ok (.tableswitch 111 9 18 #[57, 111, 111, 55, 111, 111, 76, 95, 111, 97], 55) := by decide +kernel
theorem dX0_ownLength_64 : decode cX0_ownLength 64 = .ok (.iconst 0, 1) := by decide +kernel
theorem dX0_ownLength_65 : decode cX0_ownLength 65 = .ok (.ireturn, 1) := by decide +kernel
theorem dX0_ownLength_66 : decode cX0_ownLength 66 = .ok (.aload_n 0, 1) := by decide +kernel
theorem dX0_ownLength_67 : decode cX0_ownLength 67 = .ok (.getfield 64, 3) := by decide +kernel
theorem dX0_ownLength_70 : decode cX0_ownLength 70 = .ok (.getfield 120, 3) := by decide +kernel
theorem dX0_ownLength_73 : decode cX0_ownLength 73 = .ok (.iload_n 1, 1) := by decide +kernel
theorem dX0_ownLength_74 : decode cX0_ownLength 74 = .ok (.iaload, 1) := by decide +kernel
theorem dX0_ownLength_75 : decode cX0_ownLength 75 = .ok (.iconst 2, 1) := by decide +kernel
theorem dX0_ownLength_76 : decode cX0_ownLength 76 = .ok (.if_icmp .ne 7, 3) := by decide +kernel
theorem dX0_ownLength_79 : decode cX0_ownLength 79 = .ok (.iconst 2, 1) := by decide +kernel
theorem dX0_ownLength_80 : decode cX0_ownLength 80 = .ok (.goto 4, 3) := by decide +kernel
theorem dX0_ownLength_83 : decode cX0_ownLength 83 = .ok (.iconst 0, 1) := by decide +kernel
theorem dX0_ownLength_84 : decode cX0_ownLength 84 = .ok (.ireturn, 1) := by decide +kernel
theorem dX0_ownLength_85 : decode cX0_ownLength 85 = .ok (.aload_n 0, 1) := by decide +kernel
theorem dX0_ownLength_86 : decode cX0_ownLength 86 = .ok (.getfield 60, 3) := by decide +kernel
theorem dX0_ownLength_89 : decode cX0_ownLength 89 = .ok (.getfield 123, 3) := by decide +kernel
theorem dX0_ownLength_92 : decode cX0_ownLength 92 = .ok (.iload_n 1, 1) := by decide +kernel
theorem dX0_ownLength_93 : decode cX0_ownLength 93 = .ok (.iaload, 1) := by decide +kernel
theorem dX0_ownLength_94 : decode cX0_ownLength 94 = .ok (.iconst (-1), 1) := by decide +kernel
theorem dX0_ownLength_95 : decode cX0_ownLength 95 = .ok (.if_icmp .ne 7, 3) := by decide +kernel
theorem dX0_ownLength_98 : decode cX0_ownLength 98 = .ok (.iconst 1, 1) := by decide +kernel
theorem dX0_ownLength_99 : decode cX0_ownLength 99 = .ok (.goto 4, 3) := by decide +kernel
theorem dX0_ownLength_102 : decode cX0_ownLength 102 = .ok (.iconst 2, 1) := by decide +kernel
theorem dX0_ownLength_103 : decode cX0_ownLength 103 = .ok (.ireturn, 1) := by decide +kernel
theorem dX0_ownLength_104 : decode cX0_ownLength 104 = .ok (.iconst 4, 1) := by decide +kernel
theorem dX0_ownLength_105 : decode cX0_ownLength 105 = .ok (.ireturn, 1) := by decide +kernel
theorem dX0_ownLength_106 : decode cX0_ownLength 106 = .ok (.aload_n 0, 1) := by decide +kernel
theorem dX0_ownLength_107 : decode cX0_ownLength 107 = .ok (.iload_n 1, 1) := by decide +kernel
theorem dX0_ownLength_108 : decode cX0_ownLength 108 = .ok (.invokevirtual 126, 3) := by decide +kernel
theorem dX0_ownLength_111 : decode cX0_ownLength 111 = .ok (.ifCond .eq 7, 3) := by decide +kernel
theorem dX0_ownLength_114 : decode cX0_ownLength 114 = .ok (.iconst 0, 1) := by decide +kernel
theorem dX0_ownLength_115 : decode cX0_ownLength 115 = .ok (.goto 4, 3) := by decide +kernel
theorem dX0_ownLength_118 : decode cX0_ownLength 118 = .ok (.iconst 1, 1) := by decide +kernel
theorem dX0_ownLength_119 : decode cX0_ownLength 119 = .ok (.ireturn, 1) := by decide +kernel
theorem dX0_ownLength_120 : decode cX0_ownLength 120 = .ok (.iconst 1, 1) := by decide +kernel
theorem dX0_ownLength_121 : decode cX0_ownLength 121 = .ok (.ireturn, 1) := by decide +kernel
set_option maxRecDepth 20000 in
theorem ggX0_placeProcedures_X0_lengthOfPart : GoodIn wsX0_placeProcedures wsX0_lengthOfPart := goodIn_r _ [12, 13, 28, 29, 30, 31, 32, 33, 34, 35, 36, 37, 38, 39, 40, 41, 42, 43, 44] (by decide +kernel) (by decide +kernel)
set_option maxRecDepth 20000 in
theorem gX0_placeProcedures_X0_lengthOfPart : GoodIn wsX0_placeProcedures (wsV RX0 81 RX0 yX0_lengthOfPart wsX0_lengthOfPart) := goodIn_app (goodIn_of _ (by decide +kernel)) ggX0_placeProcedures_X0_lengthOfPart
set_option maxRecDepth 20000 in
theorem ggX0_placeProcedures_X0_clear : GoodIn wsX0_placeProcedures wsX0_clear := goodIn_r _ [17, 18, 19, 28, 29, 30, 31, 32, 33, 34, 35, 36, 37, 38, 39, 40, 41, 42, 43, 44] (by decide +kernel) (by decide +kernel)
set_option maxRecDepth 20000 in
theorem gX0_placeProcedures_X0_clear : GoodIn wsX0_placeProcedures (wsV RX0 135 RX0 yX0_clear wsX0_clear) := goodIn_app (goodIn_of _ (by decide +kernel)) ggX0_placeProcedures_X0_clear
set_option maxRecDepth 20000 in
theorem ggX0_placeProcedures_X0_put : GoodIn wsX0_placeProcedures wsX0_put := goodIn_r _ [23, 24, 25, 26, 27, 28, 29, 30, 31, 32, 33, 34, 35, 36, 37, 38, 39, 40, 41, 42, 43, 44] (by decide +kernel) (by decide +kernel)
set_option maxRecDepth 20000 in
theorem gX0_placeProcedures_X0_put : GoodIn wsX0_placeProcedures (wsV RX0 139 RX0 yX0_put wsX0_put) := goodIn_app (goodIn_of _ (by decide +kernel)) ggX0_placeProcedures_X0_put
theorem dX0_placeProcedures_0 : decode cX0_placeProcedures 0 = .ok (.aload_n 0, 1) := by decide +kernel
theorem dX0_placeProcedures_1 : decode cX0_placeProcedures 1 = .ok (.iconst 0, 1) := by decide +kernel
theorem dX0_placeProcedures_2 : decode cX0_placeProcedures 2 = .ok (.putfield 15, 3) := by decide +kernel
theorem dX0_placeProcedures_5 : decode cX0_placeProcedures 5 = .ok (.iconst 0, 1) := by decide +kernel
theorem dX0_placeProcedures_6 : decode cX0_placeProcedures 6 = .ok (.istore_n 1, 1) := by decide +kernel
theorem dX0_placeProcedures_7 : decode cX0_placeProcedures 7 = .ok (.iload_n 1, 1) := by decide +kernel
theorem dX0_placeProcedures_8 : decode cX0_placeProcedures 8 = .ok (.aload_n 0, 1) := by decide +kernel
theorem dX0_placeProcedures_9 : decode cX0_placeProcedures 9 = .ok (.getfield 56, 3) := by decide +kernel
theorem dX0_placeProcedures_12 : decode cX0_placeProcedures 12 = .ok (.getfield 129, 3) := by decide +kernel
theorem dX0_placeProcedures_15 : decode cX0_placeProcedures 15 = .ok (.if_icmp .ge 117, 3) := by decide +kernel
theorem dX0_placeProcedures_18 : decode cX0_placeProcedures 18 = .ok (.aload_n 0, 1) := by decide +kernel
theorem dX0_placeProcedures_19 : decode cX0_placeProcedures 19 = .ok (.getfield 56, 3) := by decide +kernel
theorem dX0_placeProcedures_22 : decode cX0_placeProcedures 22 = .ok (.getfield 132, 3) := by decide +kernel
theorem dX0_placeProcedures_25 : decode cX0_placeProcedures 25 = .ok (.iload_n 1, 1) := by decide +kernel
theorem dX0_placeProcedures_26 : decode cX0_placeProcedures 26 = .ok (.iaload, 1) := by decide +kernel
theorem dX0_placeProcedures_27 : decode cX0_placeProcedures 27 = .ok (.istore_n 2, 1) := by decide +kernel
theorem dX0_placeProcedures_28 : decode cX0_placeProcedures 28 = .ok (.aload_n 0, 1) := by decide +kernel
theorem dX0_placeProcedures_29 : decode cX0_placeProcedures 29 = .ok (.iload_n 2, 1) := by decide +kernel
theorem dX0_placeProcedures_30 : decode cX0_placeProcedures 30 = .ok (.invokevirtual 81, 3) := by decide +kernel
theorem dX0_placeProcedures_33 : decode cX0_placeProcedures 33 = .ok (.istore_n 3, 1) := by decide +kernel
theorem dX0_placeProcedures_34 : decode cX0_placeProcedures 34 = .ok (.aload_n 0, 1) := by decide +kernel
theorem dX0_placeProcedures_35 : decode cX0_placeProcedures 35 = .ok (.getfield 18, 3) := by decide +kernel
theorem dX0_placeProcedures_38 : decode cX0_placeProcedures 38 = .ok (.iload_n 1, 1) := by decide +kernel
theorem dX0_placeProcedures_39 : decode cX0_placeProcedures 39 = .ok (.aload_n 0, 1) := by decide +kernel
theorem dX0_placeProcedures_40 : decode cX0_placeProcedures 40 = .ok (.getfield 15, 3) := by decide +kernel
theorem dX0_placeProcedures_43 : decode cX0_placeProcedures 43 = .ok (.iastore, 1) := by decide +kernel
theorem dX0_placeProcedures_44 : decode cX0_placeProcedures 44 = .ok (.aload_n 0, 1) := by decide +kernel
theorem dX0_placeProcedures_45 : decode cX0_placeProcedures 45 = .ok (.getfield 22, 3) := by decide +kernel
theorem dX0_placeProcedures_48 : decode cX0_placeProcedures 48 = .ok (.iload_n 1, 1) := by decide +kernel
theorem dX0_placeProcedures_49 : decode cX0_placeProcedures 49 = .ok (.iload_n 3, 1) := by decide +kernel
theorem dX0_placeProcedures_50 : decode cX0_placeProcedures 50 = .ok (.iconst 2, 1) := by decide +kernel
theorem dX0_placeProcedures_51 : decode cX0_placeProcedures 51 = .ok (.iadd, 1) := by decide +kernel
theorem dX0_placeProcedures_52 : decode cX0_placeProcedures 52 = .ok (.iastore, 1) := by decide +kernel
theorem dX0_placeProcedures_53 : decode cX0_placeProcedures 53 = .ok (.iload_n 2, 1) := by decide +kernel
theorem dX0_placeProcedures_54 : decode cX0_placeProcedures 54 = .ok (.iconst (-1), 1) := by decide +kernel
theorem dX0_placeProcedures_55 : decode cX0_placeProcedures 55 = .ok (.if_icmp .eq 13, 3) := by decide +kernel
theorem dX0_placeProcedures_58 : decode cX0_placeProcedures 58 = .ok (.aload_n 0, 1) := by decide +kernel
theorem dX0_placeProcedures_59 : decode cX0_placeProcedures 59 = .ok (.getfield 43, 3) := by decide +kernel
theorem dX0_placeProcedures_62 : decode cX0_placeProcedures 62 = .ok (.iload_n 2, 1) := by decide +kernel
theorem dX0_placeProcedures_63 : decode cX0_placeProcedures 63 = .ok (.aload_n 0, 1) := by decide +kernel
theorem dX0_placeProcedures_64 : decode cX0_placeProcedures 64 = .ok (.getfield 15, 3) := by decide +kernel
theorem dX0_placeProcedures_67 : decode cX0_placeProcedures 67 = .ok (.iastore, 1) := by decide +kernel
theorem dX0_placeProcedures_68 : decode cX0_placeProcedures 68 = .ok (.aload_n 0, 1) := by decide +kernel
theorem dX0_placeProcedures_69 : decode cX0_placeProcedures 69 = .ok (.dup, 1) := by decide +kernel
theorem dX0_placeProcedures_70 : decode cX0_placeProcedures 70 = .ok (.getfield 15, 3) := by decide +kernel
theorem dX0_placeProcedures_73 : decode cX0_placeProcedures 73 = .ok (.aload_n 0, 1) := by decide +kernel
theorem dX0_placeProcedures_74 : decode cX0_placeProcedures 74 = .ok (.getfield 22, 3) := by decide +kernel
theorem dX0_placeProcedures_77 : decode cX0_placeProcedures 77 = .ok (.iload_n 1, 1) := by decide +kernel
theorem dX0_placeProcedures_78 : decode cX0_placeProcedures 78 = .ok (.iaload, 1) := by decide +kernel
theorem dX0_placeProcedures_79 : decode cX0_placeProcedures 79 = .ok (.iadd, 1) := by decide +kernel
theorem dX0_placeProcedures_80 : decode cX0_placeProcedures 80 = .ok (.putfield 15, 3) := by decide +kernel
theorem dX0_placeProcedures_83 : decode cX0_placeProcedures 83 = .ok (.aload_n 0, 1) := by decide +kernel
theorem dX0_placeProcedures_84 : decode cX0_placeProcedures 84 = .ok (.aload_n 0, 1) := by decide +kernel
theorem dX0_placeProcedures_85 : decode cX0_placeProcedures 85 = .ok (.getfield 18, 3) := by decide +kernel
theorem dX0_placeProcedures_88 : decode cX0_placeProcedures 88 = .ok (.iload_n 1, 1) := by decide +kernel
theorem dX0_placeProcedures_89 : decode cX0_placeProcedures 89 = .ok (.iaload, 1) := by decide +kernel
theorem dX0_placeProcedures_90 : decode cX0_placeProcedures 90 = .ok (.aload_n 0, 1) := by decide +kernel
theorem dX0_placeProcedures_91 : decode cX0_placeProcedures 91 = .ok (.getfield 15, 3) := by decide +kernel
theorem dX0_placeProcedures_94 : decode cX0_placeProcedures 94 = .ok (.invokevirtual 135, 3) := by decide +kernel
theorem dX0_placeProcedures_97 : decode cX0_placeProcedures 97 = .ok (.aload_n 0, 1) := by decide +kernel
theorem dX0_placeProcedures_98 : decode cX0_placeProcedures 98 = .ok (.aload_n 0, 1) := by decide +kernel
theorem dX0_placeProcedures_99 : decode cX0_placeProcedures 99 = .ok (.getfield 15, 3) := by decide +kernel
theorem dX0_placeProcedures_102 : decode cX0_placeProcedures 102 = .ok (.iconst 2, 1) := by decide +kernel
theorem dX0_placeProcedures_103 : decode cX0_placeProcedures 103 = .ok (.isub, 1) := by decide +kernel
theorem dX0_placeProcedures_104 : decode cX0_placeProcedures 104 = .ok (.iconst 1, 1) := by decide +kernel
theorem dX0_placeProcedures_105 : decode cX0_placeProcedures 105 = .ok (.iconst 0, 1) := by decide +kernel
theorem dX0_placeProcedures_106 : decode cX0_placeProcedures 106 = .ok (.iconst 0, 1) := by decide +kernel
theorem dX0_placeProcedures_107 : decode cX0_placeProcedures 107 = .ok (.iconst (-1), 1) := by decide +kernel
theorem dX0_placeProcedures_108 : decode cX0_placeProcedures 108 = .ok (.invokevirtual 139, 3) := by decide +kernel
theorem dX0_placeProcedures_111 : decode cX0_placeProcedures 111 = .ok (.aload_n 0, 1) := by decide +kernel
theorem dX0_placeProcedures_112 : decode cX0_placeProcedures 112 = .ok (.aload_n 0, 1) := by decide +kernel
theorem dX0_placeProcedures_113 : decode cX0_placeProcedures 113 = .ok (.getfield 15, 3) := by decide +kernel
theorem dX0_placeProcedures_116 : decode cX0_placeProcedures 116 = .ok (.iconst 1, 1) := by decide +kernel
theorem dX0_placeProcedures_117 : decode cX0_placeProcedures 117 = .ok (.isub, 1) := by decide +kernel
theorem dX0_placeProcedures_118 : decode cX0_placeProcedures 118 = .ok (.bipush 15, 2) := by decide +kernel
theorem dX0_placeProcedures_120 : decode cX0_placeProcedures 120 = .ok (.iconst 0, 1) := by decide +kernel
theorem dX0_placeProcedures_121 : decode cX0_placeProcedures 121 = .ok (.iconst 0, 1) := by decide +kernel
theorem dX0_placeProcedures_122 : decode cX0_placeProcedures 122 = .ok (.iconst (-1), 1) := by decide +kernel
theorem dX0_placeProcedures_123 : decode cX0_placeProcedures 123 = .ok (.invokevirtual 139, 3) := by decide +kernel
theorem dX0_placeProcedures_126 : decode cX0_placeProcedures 126 = .ok (.iinc 1 1, 3) := by decide +kernel
theorem dX0_placeProcedures_129 : decode cX0_placeProcedures 129 = .ok (.goto (-122), 3) := by decide +kernel
theorem dX0_placeProcedures_132 : decode cX0_placeProcedures 132 = .ok (.return_, 1) := by decide +kernel
theorem dX0_clear_0 : decode cX0_clear 0 = .ok (.iload_n 1, 1) := by decide +kernel
theorem dX0_clear_1 : decode cX0_clear 1 = .ok (.istore_n 3, 1) := by decide +kernel
theorem dX0_clear_2 : decode cX0_clear 2 = .ok (.iload_n 3, 1) := by decide +kernel
theorem dX0_clear_3 : decode cX0_clear 3 = .ok (.iload_n 2, 1) := by decide +kernel
theorem dX0_clear_4 : decode cX0_clear 4 = .ok (.if_icmp .ge 30, 3) := by decide +kernel
theorem dX0_clear_7 : decode cX0_clear 7 = .ok (.iload_n 3, 1) := by decide +kernel
theorem dX0_clear_8 : decode cX0_clear 8 = .ok (.sipush 460, 3) := by decide +kernel
theorem dX0_clear_11 : decode cX0_clear 11 = .ok (.if_icmp .ge 23, 3) := by decide +kernel
theorem dX0_clear_14 : decode cX0_clear 14 = .ok (.aload_n 0, 1) := by decide +kernel
theorem dX0_clear_15 : decode cX0_clear 15 = .ok (.getfield 37, 3) := by decide +kernel
theorem dX0_clear_18 : decode cX0_clear 18 = .ok (.iload_n 3, 1) := by decide +kernel
theorem dX0_clear_19 : decode cX0_clear 19 = .ok (.iconst (-1), 1) := by decide +kernel
theorem dX0_clear_20 : decode cX0_clear 20 = .ok (.iastore, 1) := by decide +kernel
theorem dX0_clear_21 : decode cX0_clear 21 = .ok (.aload_n 0, 1) := by decide +kernel
theorem dX0_clear_22 : decode cX0_clear 22 = .ok (.getfield 40, 3) := by decide +kernel
theorem dX0_clear_25 : decode cX0_clear 25 = .ok (.iload_n 3, 1) := by decide +kernel
theorem dX0_clear_26 : decode cX0_clear 26 = .ok (.iconst 0, 1) := by decide +kernel
theorem dX0_clear_27 : decode cX0_clear 27 = .ok (.iastore, 1) := by decide +kernel
theorem dX0_clear_28 : decode cX0_clear 28 = .ok (.iinc 3 1, 3) := by decide +kernel
theorem dX0_clear_31 : decode cX0_clear 31 = .ok (.goto (-29), 3) := by decide +kernel
theorem dX0_clear_34 : decode cX0_clear 34 = .ok (.return_, 1) := by decide +kernel
set_option maxRecDepth 20000 in
theorem ggX0_placeParts_X0_isPushed : GoodIn wsX0_placeParts wsX0_isPushed := goodIn_r _ [11, 5, 12, 13, 47, 48, 49, 50, 51, 52, 53, 54, 55, 56, 57, 58, 59, 60, 61, 62, 63, 71, 72, 73, 74, 75, 76, 77, 78, 79, 80, 81, 82, 83, 84, 85, 86, 87, 88, 89] (by decide +kernel) (by decide +kernel)
set_option maxRecDepth 20000 in
theorem gX0_placeParts_X0_isPushed : GoodIn wsX0_placeParts (wsV RX0 73 RX0 yX0_isPushed wsX0_isPushed) := goodIn_app (goodIn_of _ (by decide +kernel)) ggX0_placeParts_X0_isPushed
set_option maxRecDepth 20000 in
theorem ggX0_placeParts_X5_partB : GoodIn wsX0_placeParts wsX5_partB := goodIn_r _ [18, 19, 20, 21, 64, 65, 66, 67, 68, 69, 70] (by decide +kernel) (by decide +kernel)
set_option maxRecDepth 20000 in
theorem gX0_placeParts_X5_partB : GoodIn wsX0_placeParts (wsV RX0 84 RX5 yX5_partB wsX5_partB) := goodIn_app (goodIn_of _ (by decide +kernel)) ggX0_placeParts_X5_partB
set_option maxRecDepth 20000 in
theorem ggX0_placeParts_X0_swallow : GoodIn wsX0_placeParts wsX0_swallow := goodIn_r _ [25, 1, 2, 47, 48, 49, 50, 51, 52, 53, 54, 55, 56, 57, 58, 59, 60, 61, 62, 63] (by decide +kernel) (by decide +kernel)
set_option maxRecDepth 20000 in
theorem gX0_placeParts_X0_swallow : GoodIn wsX0_placeParts (wsV RX0 143 RX0 yX0_swallow wsX0_swallow) := goodIn_app (goodIn_of _ (by decide +kernel)) ggX0_placeParts_X0_swallow
set_option maxRecDepth 20000 in
theorem ggX0_placeParts_X5_partC : GoodIn wsX0_placeParts wsX5_partC := goodIn_r _ [29, 30, 20, 31, 64, 65, 66, 67, 68, 69, 70] (by decide +kernel) (by decide +kernel)
set_option maxRecDepth 20000 in
theorem gX0_placeParts_X5_partC : GoodIn wsX0_placeParts (wsV RX0 87 RX5 yX5_partC wsX5_partC) := goodIn_app (goodIn_of _ (by decide +kernel)) ggX0_placeParts_X5_partC
set_option maxRecDepth 20000 in
theorem ggX0_placeParts_X0_lengthOfPart : GoodIn wsX0_placeParts wsX0_lengthOfPart := goodIn_r _ [35, 36, 47, 48, 49, 50, 51, 52, 53, 54, 55, 56, 57, 58, 59, 60, 61, 62, 63] (by decide +kernel) (by decide +kernel)
set_option maxRecDepth 20000 in
theorem gX0_placeParts_X0_lengthOfPart : GoodIn wsX0_placeParts (wsV RX0 81 RX0 yX0_lengthOfPart wsX0_lengthOfPart) := goodIn_app (goodIn_of _ (by decide +kernel)) ggX0_placeParts_X0_lengthOfPart
set_option maxRecDepth 20000 in
theorem ggX0_placeParts_X0_place : GoodIn wsX0_placeParts wsX0_place := goodIn_r _ [40, 1, 47, 48, 49, 50, 51, 52, 53, 54, 55, 56, 57, 58, 59, 60, 61, 62, 63] (by decide +kernel) (by decide +kernel)
set_option maxRecDepth 20000 in
theorem gX0_placeParts_X0_place : GoodIn wsX0_placeParts (wsV RX0 146 RX0 yX0_place wsX0_place) := goodIn_app (goodIn_of _ (by decide +kernel)) ggX0_placeParts_X0_place
set_option maxRecDepth 20000 in
theorem ggX0_placeParts_X5_partA : GoodIn wsX0_placeParts wsX5_partA := goodIn_r _ [44, 45, 20, 46, 64, 65, 66, 67, 68, 69, 70] (by decide +kernel) (by decide +kernel)
set_option maxRecDepth 20000 in
theorem gX0_placeParts_X5_partA : GoodIn wsX0_placeParts (wsV RX0 77 RX5 yX5_partA wsX5_partA) := goodIn_app (goodIn_of _ (by decide +kernel)) ggX0_placeParts_X5_partA
theorem dX0_placeParts_0 : decode cX0_placeParts 0 = .ok (.aload_n 0, 1) := by decide +kernel
theorem dX0_placeParts_1 : decode cX0_placeParts 1 = .ok (.getfield 43, 3) := by decide +kernel
theorem dX0_placeParts_4 : decode cX0_placeParts 4 = .ok (.iload_n 1, 1) := by decide +kernel
theorem dX0_placeParts_5 : decode cX0_placeParts 5 = .ok (.iaload, 1) := by decide +kernel
theorem dX0_placeParts_6 : decode cX0_placeParts 6 = .ok (.istore_n 2, 1) := by decide +kernel
theorem dX0_placeParts_7 : decode cX0_placeParts 7 = .ok (.aload_n 0, 1) := by decide +kernel
theorem dX0_placeParts_8 : decode cX0_placeParts 8 = .ok (.iload_n 1, 1) := by decide +kernel
theorem dX0_placeParts_9 : decode cX0_placeParts 9 = .ok (.invokevirtual 73, 3) := by decide +kernel
theorem dX0_placeParts_12 : decode cX0_placeParts 12 = .ok (.ifCond .ne 12, 3) := by decide +kernel
theorem dX0_placeParts_15 : decode cX0_placeParts 15 = .ok (.aload_n 0, 1) := by decide +kernel
theorem dX0_placeParts_16 : decode cX0_placeParts 16 = .ok (.getfield 52, 3) := by decide +kernel
theorem dX0_placeParts_19 : decode cX0_placeParts 19 = .ok (.iload_n 1, 1) := by decide +kernel
theorem dX0_placeParts_20 : decode cX0_placeParts 20 = .ok (.baload, 1) := by decide +kernel
theorem dX0_placeParts_21 : decode cX0_placeParts 21 = .ok (.ifCond .eq 30, 3) := by decide +kernel
theorem dX0_placeParts_24 : decode cX0_placeParts 24 = .ok (.aload_n 0, 1) := by decide +kernel
theorem dX0_placeParts_25 : decode cX0_placeParts 25 = .ok (.aload_n 0, 1) := by decide +kernel
theorem dX0_placeParts_26 : decode cX0_placeParts 26 = .ok (.getfield 60, 3) := by decide +kernel
theorem dX0_placeParts_29 : decode cX0_placeParts 29 = .ok (.iload_n 1, 1) := by decide +kernel
theorem dX0_placeParts_30 : decode cX0_placeParts 30 = .ok (.invokevirtual 84, 3) := by decide +kernel
theorem dX0_placeParts_33 : decode cX0_placeParts 33 = .ok (.iload_n 2, 1) := by decide +kernel
theorem dX0_placeParts_34 : decode cX0_placeParts 34 = .ok (.invokevirtual 143, 3) := by decide +kernel
theorem dX0_placeParts_37 : decode cX0_placeParts 37 = .ok (.aload_n 0, 1) := by decide +kernel
theorem dX0_placeParts_38 : decode cX0_placeParts 38 = .ok (.aload_n 0, 1) := by decide +kernel
theorem dX0_placeParts_39 : decode cX0_placeParts 39 = .ok (.getfield 60, 3) := by decide +kernel
theorem dX0_placeParts_42 : decode cX0_placeParts 42 = .ok (.iload_n 1, 1) := by decide +kernel
theorem dX0_placeParts_43 : decode cX0_placeParts 43 = .ok (.invokevirtual 87, 3) := by decide +kernel
theorem dX0_placeParts_46 : decode cX0_placeParts 46 = .ok (.iload_n 2, 1) := by decide +kernel
theorem dX0_placeParts_47 : decode cX0_placeParts 47 = .ok (.invokevirtual 143, 3) := by decide +kernel
theorem dX0_placeParts_50 : decode cX0_placeParts 50 = .ok (.return_, 1) := by decide +kernel
theorem dX0_placeParts_51 : decode cX0_placeParts 51 = .ok (.iconst 0, 1) := by decide +kernel
theorem dX0_placeParts_52 : decode cX0_placeParts 52 = .ok (.istore_n 3, 1) := by decide +kernel
theorem dX0_placeParts_53 : decode cX0_placeParts 53 = .ok (.iconst 0, 1) := by decide +kernel
theorem dX0_placeParts_54 : decode cX0_placeParts 54 = .ok (.istore 4, 2) := by decide +kernel
theorem dX0_placeParts_56 : decode cX0_placeParts 56 = .ok (.aload_n 0, 1) := by decide +kernel
theorem dX0_placeParts_57 : decode cX0_placeParts 57 = .ok (.getfield 60, 3) := by decide +kernel
theorem dX0_placeParts_60 : decode cX0_placeParts 60 = .ok (.getfield 117, 3) := by decide +kernel
theorem dX0_placeParts_63 : decode cX0_placeParts 63 = .ok (.iload_n 1, 1) := by decide +kernel
theorem dX0_placeParts_64 : decode cX0_placeParts 64 = .ok (.iaload, 1) := by decide +kernel
theorem dX0_placeParts_65 : decode cX0_placeParts 65 = .ok (.lookupswitch 74 #[(9, 49), (15, 43), (16, 35)], 35) := by decide +kernel
theorem dX0_placeParts_100 : decode cX0_placeParts 100 = .ok (.iconst 1, 1) := by decide +kernel
theorem dX0_placeParts_101 : decode cX0_placeParts 101 = .ok (.istore_n 3, 1) := by decide +kernel
theorem dX0_placeParts_102 : decode cX0_placeParts 102 = .ok (.iconst 1, 1) := by decide +kernel
theorem dX0_placeParts_103 : decode cX0_placeParts 103 = .ok (.istore 4, 2) := by decide +kernel
theorem dX0_placeParts_105 : decode cX0_placeParts 105 = .ok (.goto 34, 3) := by decide +kernel
theorem dX0_placeParts_108 : decode cX0_placeParts 108 = .ok (.iconst 1, 1) := by decide +kernel
theorem dX0_placeParts_109 : decode cX0_placeParts 109 = .ok (.istore 4, 2) := by decide +kernel
theorem dX0_placeParts_111 : decode cX0_placeParts 111 = .ok (.goto 28, 3) := by decide +kernel
theorem dX0_placeParts_114 : decode cX0_placeParts 114 = .ok (.aload_n 0, 1) := by decide +kernel
theorem dX0_placeParts_115 : decode cX0_placeParts 115 = .ok (.getfield 64, 3) := by decide +kernel
theorem dX0_placeParts_118 : decode cX0_placeParts 118 = .ok (.getfield 120, 3) := by decide +kernel
theorem dX0_placeParts_121 : decode cX0_placeParts 121 = .ok (.iload_n 1, 1) := by decide +kernel
theorem dX0_placeParts_122 : decode cX0_placeParts 122 = .ok (.iaload, 1) := by decide +kernel
theorem dX0_placeParts_123 : decode cX0_placeParts 123 = .ok (.iconst 2, 1) := by decide +kernel
theorem dX0_placeParts_124 : decode cX0_placeParts 124 = .ok (.if_icmp .ne 7, 3) := by decide +kernel
theorem dX0_placeParts_127 : decode cX0_placeParts 127 = .ok (.iconst 1, 1) := by decide +kernel
theorem dX0_placeParts_128 : decode cX0_placeParts 128 = .ok (.goto 4, 3) := by decide +kernel
theorem dX0_placeParts_131 : decode cX0_placeParts 131 = .ok (.iconst 0, 1) := by decide +kernel
theorem dX0_placeParts_132 : decode cX0_placeParts 132 = .ok (.istore_n 3, 1) := by decide +kernel
theorem dX0_placeParts_133 : decode cX0_placeParts 133 = .ok (.iload_n 3, 1) := by decide +kernel
theorem dX0_placeParts_134 : decode cX0_placeParts 134 = .ok (.istore 4, 2) := by decide +kernel
theorem dX0_placeParts_136 : decode cX0_placeParts 136 = .ok (.goto 3, 3) := by decide +kernel
theorem dX0_placeParts_139 : decode cX0_placeParts 139 = .ok (.aload_n 0, 1) := by decide +kernel
theorem dX0_placeParts_140 : decode cX0_placeParts 140 = .ok (.getfield 60, 3) := by decide +kernel
theorem dX0_placeParts_143 : decode cX0_placeParts 143 = .ok (.iload_n 1, 1) := by decide +kernel
theorem dX0_placeParts_144 : decode cX0_placeParts 144 = .ok (.invokevirtual 84, 3) := by decide +kernel
theorem dX0_placeParts_147 : decode cX0_placeParts 147 = .ok (.istore 5, 2) := by decide +kernel
theorem dX0_placeParts_149 : decode cX0_placeParts 149 = .ok (.iload_n 2, 1) := by decide +kernel
theorem dX0_placeParts_150 : decode cX0_placeParts 150 = .ok (.iload_n 3, 1) := by decide +kernel
theorem dX0_placeParts_151 : decode cX0_placeParts 151 = .ok (.iadd, 1) := by decide +kernel
theorem dX0_placeParts_152 : decode cX0_placeParts 152 = .ok (.aload_n 0, 1) := by decide +kernel
theorem dX0_placeParts_153 : decode cX0_placeParts 153 = .ok (.iload 5, 2) := by decide +kernel
theorem dX0_placeParts_155 : decode cX0_placeParts 155 = .ok (.invokevirtual 81, 3) := by decide +kernel
theorem dX0_placeParts_158 : decode cX0_placeParts 158 = .ok (.iadd, 1) := by decide +kernel
theorem dX0_placeParts_159 : decode cX0_placeParts 159 = .ok (.iload 4, 2) := by decide +kernel
theorem dX0_placeParts_161 : decode cX0_placeParts 161 = .ok (.iadd, 1) := by decide +kernel
theorem dX0_placeParts_162 : decode cX0_placeParts 162 = .ok (.istore 6, 2) := by decide +kernel
theorem dX0_placeParts_164 : decode cX0_placeParts 164 = .ok (.aload_n 0, 1) := by decide +kernel
theorem dX0_placeParts_165 : decode cX0_placeParts 165 = .ok (.getfield 60, 3) := by decide +kernel
theorem dX0_placeParts_168 : decode cX0_placeParts 168 = .ok (.iload_n 1, 1) := by decide +kernel
theorem dX0_placeParts_169 : decode cX0_placeParts 169 = .ok (.invokevirtual 87, 3) := by decide +kernel
theorem dX0_placeParts_172 : decode cX0_placeParts 172 = .ok (.istore 7, 2) := by decide +kernel
theorem dX0_placeParts_174 : decode cX0_placeParts 174 = .ok (.aload_n 0, 1) := by decide +kernel
theorem dX0_placeParts_175 : decode cX0_placeParts 175 = .ok (.iload 5, 2) := by decide +kernel
theorem dX0_placeParts_177 : decode cX0_placeParts 177 = .ok (.iload_n 2, 1) := by decide +kernel
theorem dX0_placeParts_178 : decode cX0_placeParts 178 = .ok (.iload_n 3, 1) := by decide +kernel
theorem dX0_placeParts_179 : decode cX0_placeParts 179 = .ok (.iadd, 1) := by decide +kernel
theorem dX0_placeParts_180 : decode cX0_placeParts 180 = .ok (.invokevirtual 146, 3) := by decide +kernel
theorem dX0_placeParts_183 : decode cX0_placeParts 183 = .ok (.aload_n 0, 1) := by decide +kernel
theorem dX0_placeParts_184 : decode cX0_placeParts 184 = .ok (.iload 7, 2) := by decide +kernel
theorem dX0_placeParts_186 : decode cX0_placeParts 186 = .ok (.iload 6, 2) := by decide +kernel
theorem dX0_placeParts_188 : decode cX0_placeParts 188 = .ok (.invokevirtual 146, 3) := by decide +kernel
theorem dX0_placeParts_191 : decode cX0_placeParts 191 = .ok (.aload_n 0, 1) := by decide +kernel
theorem dX0_placeParts_192 : decode cX0_placeParts 192 = .ok (.aload_n 0, 1) := by decide +kernel
theorem dX0_placeParts_193 : decode cX0_placeParts 193 = .ok (.getfield 60, 3) := by decide +kernel
theorem dX0_placeParts_196 : decode cX0_placeParts 196 = .ok (.iload_n 1, 1) := by decide +kernel
theorem dX0_placeParts_197 : decode cX0_placeParts 197 = .ok (.invokevirtual 77, 3) := by decide +kernel
theorem dX0_placeParts_200 : decode cX0_placeParts 200 = .ok (.iload 6, 2) := by decide +kernel
theorem dX0_placeParts_202 : decode cX0_placeParts 202 = .ok (.aload_n 0, 1) := by decide +kernel
theorem dX0_placeParts_203 : decode cX0_placeParts 203 = .ok (.iload 7, 2) := by decide +kernel
theorem dX0_placeParts_205 : decode cX0_placeParts 205 = .ok (.invokevirtual 81, 3) := by decide +kernel
theorem dX0_placeParts_208 : decode cX0_placeParts 208 = .ok (.iadd, 1) := by decide +kernel
theorem dX0_placeParts_209 : decode cX0_placeParts 209 = .ok (.iconst 1, 1) := by decide +kernel
theorem dX0_placeParts_210 : decode cX0_placeParts 210 = .ok (.iadd, 1) := by decide +kernel
theorem dX0_placeParts_211 : decode cX0_placeParts 211 = .ok (.invokevirtual 146, 3) := by decide +kernel
theorem dX0_placeParts_214 : decode cX0_placeParts 214 = .ok (.return_, 1) := by decide +kernel
theorem dX0_place_0 : decode cX0_place 0 = .ok (.iload_n 1, 1) := by decide +kernel
theorem dX0_place_1 : decode cX0_place 1 = .ok (.iconst (-1), 1) := by decide +kernel
theorem dX0_place_2 : decode cX0_place 2 = .ok (.if_icmp .eq 10, 3) := by decide +kernel
theorem dX0_place_5 : decode cX0_place 5 = .ok (.aload_n 0, 1) := by decide +kernel
theorem dX0_place_6 : decode cX0_place 6 = .ok (.getfield 43, 3) := by decide +kernel
theorem dX0_place_9 : decode cX0_place 9 = .ok (.iload_n 1, 1) := by decide +kernel
theorem dX0_place_10 : decode cX0_place 10 = .ok (.iload_n 2, 1) := by decide +kernel
theorem dX0_place_11 : decode cX0_place 11 = .ok (.iastore, 1) := by decide +kernel
theorem dX0_place_12 : decode cX0_place 12 = .ok (.return_, 1) := by decide +kernel
theorem dX0_swallow_0 : decode cX0_swallow 0 = .ok (.iload_n 1, 1) := by decide +kernel
theorem dX0_swallow_1 : decode cX0_swallow 1 = .ok (.iconst (-1), 1) := by decide +kernel
theorem dX0_swallow_2 : decode cX0_swallow 2 = .ok (.if_icmp .eq 17, 3) := by decide +kernel
theorem dX0_swallow_5 : decode cX0_swallow 5 = .ok (.aload_n 0, 1) := by decide +kernel
theorem dX0_swallow_6 : decode cX0_swallow 6 = .ok (.getfield 43, 3) := by decide +kernel
theorem dX0_swallow_9 : decode cX0_swallow 9 = .ok (.iload_n 1, 1) := by decide +kernel
theorem dX0_swallow_10 : decode cX0_swallow 10 = .ok (.iload_n 2, 1) := by decide +kernel
theorem dX0_swallow_11 : decode cX0_swallow 11 = .ok (.iastore, 1) := by decide +kernel
theorem dX0_swallow_12 : decode cX0_swallow 12 = .ok (.aload_n 0, 1) := by decide +kernel
theorem dX0_swallow_13 : decode cX0_swallow 13 = .ok (.getfield 52, 3) := by decide +kernel
theorem dX0_swallow_16 : decode cX0_swallow 16 = .ok (.iload_n 1, 1) := by decide +kernel
theorem dX0_swallow_17 : decode cX0_swallow 17 = .ok (.iconst 1, 1) := by decide +kernel
theorem dX0_swallow_18 : decode cX0_swallow 18 = .ok (.bastore, 1) := by decide +kernel
theorem dX0_swallow_19 : decode cX0_swallow 19 = .ok (.return_, 1) := by decide +kernel
theorem dX0_noteBegin_0 : decode cX0_noteBegin 0 = .ok (.aload_n 0, 1) := by decide +kernel
theorem dX0_noteBegin_1 : decode cX0_noteBegin 1 = .ok (.getfield 43, 3) := by decide +kernel
theorem dX0_noteBegin_4 : decode cX0_noteBegin 4 = .ok (.iload_n 1, 1) := by decide +kernel
theorem dX0_noteBegin_5 : decode cX0_noteBegin 5 = .ok (.iaload, 1) := by decide +kernel
theorem dX0_noteBegin_6 : decode cX0_noteBegin 6 = .ok (.istore_n 2, 1) := by decide +kernel
theorem dX0_noteBegin_7 : decode cX0_noteBegin 7 = .ok (.iload_n 2, 1) := by decide +kernel
theorem dX0_noteBegin_8 : decode cX0_noteBegin 8 = .ok (.ifCond .lt 39, 3) := by decide +kernel
theorem dX0_noteBegin_11 : decode cX0_noteBegin 11 = .ok (.iload_n 2, 1) := by decide +kernel
theorem dX0_noteBegin_12 : decode cX0_noteBegin 12 = .ok (.sipush 460, 3) := by decide +kernel
theorem dX0_noteBegin_15 : decode cX0_noteBegin 15 = .ok (.if_icmp .ge 32, 3) := by decide +kernel
theorem dX0_noteBegin_18 : decode cX0_noteBegin 18 = .ok (.aload_n 0, 1) := by decide +kernel
theorem dX0_noteBegin_19 : decode cX0_noteBegin 19 = .ok (.getfield 49, 3) := by decide +kernel
theorem dX0_noteBegin_22 : decode cX0_noteBegin 22 = .ok (.iload_n 1, 1) := by decide +kernel
theorem dX0_noteBegin_23 : decode cX0_noteBegin 23 = .ok (.aload_n 0, 1) := by decide +kernel
theorem dX0_noteBegin_24 : decode cX0_noteBegin 24 = .ok (.getfield 37, 3) := by decide +kernel
theorem dX0_noteBegin_27 : decode cX0_noteBegin 27 = .ok (.iload_n 2, 1) := by decide +kernel
theorem dX0_noteBegin_28 : decode cX0_noteBegin 28 = .ok (.iaload, 1) := by decide +kernel
theorem dX0_noteBegin_29 : decode cX0_noteBegin 29 = .ok (.iastore, 1) := by decide +kernel
theorem dX0_noteBegin_30 : decode cX0_noteBegin 30 = .ok (.aload_n 0, 1) := by decide +kernel
theorem dX0_noteBegin_31 : decode cX0_noteBegin 31 = .ok (.getfield 37, 3) := by decide +kernel
theorem dX0_noteBegin_34 : decode cX0_noteBegin 34 = .ok (.iload_n 2, 1) := by decide +kernel
theorem dX0_noteBegin_35 : decode cX0_noteBegin 35 = .ok (.iload_n 1, 1) := by decide +kernel
theorem dX0_noteBegin_36 : decode cX0_noteBegin 36 = .ok (.iastore, 1) := by decide +kernel
theorem dX0_noteBegin_37 : decode cX0_noteBegin 37 = .ok (.aload_n 0, 1) := by decide +kernel
theorem dX0_noteBegin_38 : decode cX0_noteBegin 38 = .ok (.getfield 40, 3) := by decide +kernel
theorem dX0_noteBegin_41 : decode cX0_noteBegin 41 = .ok (.iload_n 2, 1) := by decide +kernel
theorem dX0_noteBegin_42 : decode cX0_noteBegin 42 = .ok (.dup2, 1) := by decide +kernel
theorem dX0_noteBegin_43 : decode cX0_noteBegin 43 = .ok (.iaload, 1) := by decide +kernel
theorem dX0_noteBegin_44 : decode cX0_noteBegin 44 = .ok (.iconst 1, 1) := by decide +kernel
theorem dX0_noteBegin_45 : decode cX0_noteBegin 45 = .ok (.iadd, 1) := by decide +kernel
theorem dX0_noteBegin_46 : decode cX0_noteBegin 46 = .ok (.iastore, 1) := by decide +kernel
theorem dX0_noteBegin_47 : decode cX0_noteBegin 47 = .ok (.return_, 1) := by decide +kernel
theorem dX0_put_0 : decode cX0_put 0 = .ok (.iload_n 1, 1) := by decide +kernel
theorem dX0_put_1 : decode cX0_put 1 = .ok (.ifCond .lt 40, 3) := by decide +kernel
theorem dX0_put_4 : decode cX0_put 4 = .ok (.iload_n 1, 1) := by decide +kernel
theorem dX0_put_5 : decode cX0_put 5 = .ok (.sipush 460, 3) := by decide +kernel
theorem dX0_put_8 : decode cX0_put 8 = .ok (.if_icmp .ge 33, 3) := by decide +kernel
theorem dX0_put_11 : decode cX0_put 11 = .ok (.aload_n 0, 1) := by decide +kernel
theorem dX0_put_12 : decode cX0_put 12 = .ok (.getfield 25, 3) := by decide +kernel
theorem dX0_put_15 : decode cX0_put 15 = .ok (.iload_n 1, 1) := by decide +kernel
theorem dX0_put_16 : decode cX0_put 16 = .ok (.iload_n 2, 1) := by decide +kernel
theorem dX0_put_17 : decode cX0_put 17 = .ok (.iastore, 1) := by decide +kernel
theorem dX0_put_18 : decode cX0_put 18 = .ok (.aload_n 0, 1) := by decide +kernel
theorem dX0_put_19 : decode cX0_put 19 = .ok (.getfield 28, 3) := by decide +kernel
theorem dX0_put_22 : decode cX0_put 22 = .ok (.iload_n 1, 1) := by decide +kernel
theorem dX0_put_23 : decode cX0_put 23 = .ok (.iload_n 3, 1) := by decide +kernel
theorem dX0_put_24 : decode cX0_put 24 = .ok (.iastore, 1) := by decide +kernel
theorem dX0_put_25 : decode cX0_put 25 = .ok (.aload_n 0, 1) := by decide +kernel
theorem dX0_put_26 : decode cX0_put 26 = .ok (.getfield 31, 3) := by decide +kernel
theorem dX0_put_29 : decode cX0_put 29 = .ok (.iload_n 1, 1) := by decide +kernel
theorem dX0_put_30 : decode cX0_put 30 = .ok (.iload 4, 2) := by decide +kernel
theorem dX0_put_32 : decode cX0_put 32 = .ok (.iastore, 1) := by decide +kernel
theorem dX0_put_33 : decode cX0_put 33 = .ok (.aload_n 0, 1) := by decide +kernel
theorem dX0_put_34 : decode cX0_put 34 = .ok (.getfield 34, 3) := by decide +kernel
theorem dX0_put_37 : decode cX0_put 37 = .ok (.iload_n 1, 1) := by decide +kernel
theorem dX0_put_38 : decode cX0_put 38 = .ok (.iload 5, 2) := by decide +kernel
theorem dX0_put_40 : decode cX0_put 40 = .ok (.iastore, 1) := by decide +kernel
theorem dX0_put_41 : decode cX0_put 41 = .ok (.return_, 1) := by decide +kernel
set_option maxRecDepth 20000 in
theorem ggX0_putNamed_X0_put : GoodIn wsX0_putNamed wsX0_put := goodIn_r _ [8, 9, 10, 11, 12, 13, 14, 15, 16, 17, 18, 19, 20, 21, 22, 23, 24, 25, 26, 27, 28, 29] (by decide +kernel) (by decide +kernel)
set_option maxRecDepth 20000 in
theorem gX0_putNamed_X0_put : GoodIn wsX0_putNamed (wsV RX0 139 RX0 yX0_put wsX0_put) := goodIn_app (goodIn_of _ (by decide +kernel)) ggX0_putNamed_X0_put
theorem dX0_putNamed_0 : decode cX0_putNamed 0 = .ok (.aload_n 0, 1) := by decide +kernel
theorem dX0_putNamed_1 : decode cX0_putNamed 1 = .ok (.iload_n 1, 1) := by decide +kernel
theorem dX0_putNamed_2 : decode cX0_putNamed 2 = .ok (.iload_n 2, 1) := by decide +kernel
theorem dX0_putNamed_3 : decode cX0_putNamed 3 = .ok (.aload_n 0, 1) := by decide +kernel
theorem dX0_putNamed_4 : decode cX0_putNamed 4 = .ok (.getfield 64, 3) := by decide +kernel
theorem dX0_putNamed_7 : decode cX0_putNamed 7 = .ok (.getfield 149, 3) := by decide +kernel
theorem dX0_putNamed_10 : decode cX0_putNamed 10 = .ok (.iload_n 3, 1) := by decide +kernel
theorem dX0_putNamed_11 : decode cX0_putNamed 11 = .ok (.iaload, 1) := by decide +kernel
theorem dX0_putNamed_12 : decode cX0_putNamed 12 = .ok (.aload_n 0, 1) := by decide +kernel
theorem dX0_putNamed_13 : decode cX0_putNamed 13 = .ok (.getfield 64, 3) := by decide +kernel
theorem dX0_putNamed_16 : decode cX0_putNamed 16 = .ok (.getfield 152, 3) := by decide +kernel
theorem dX0_putNamed_19 : decode cX0_putNamed 19 = .ok (.iload_n 3, 1) := by decide +kernel
theorem dX0_putNamed_20 : decode cX0_putNamed 20 = .ok (.iaload, 1) := by decide +kernel
theorem dX0_putNamed_21 : decode cX0_putNamed 21 = .ok (.iload_n 3, 1) := by decide +kernel
theorem dX0_putNamed_22 : decode cX0_putNamed 22 = .ok (.invokevirtual 139, 3) := by decide +kernel
theorem dX0_putNamed_25 : decode cX0_putNamed 25 = .ok (.return_, 1) := by decide +kernel
set_option maxRecDepth 20000 in
theorem ggX0_write_X0_isPushed : GoodIn wsX0_write wsX0_isPushed := goodIn_r _ [12, 4, 13, 14, 72, 73, 74, 75, 76, 77, 78, 79, 80, 81, 82, 83, 84, 85, 86, 87, 88, 89, 90, 91, 92, 93, 94, 95, 96, 97, 98, 99, 100, 101, 102, 103, 104, 105, 106, 107] (by decide +kernel) (by decide +kernel)
set_option maxRecDepth 20000 in
theorem gX0_write_X0_isPushed : GoodIn wsX0_write (wsV RX0 73 RX0 yX0_isPushed wsX0_isPushed) := goodIn_app (goodIn_of _ (by decide +kernel)) ggX0_write_X0_isPushed
set_option maxRecDepth 20000 in
theorem ggX0_write_X0_put : GoodIn wsX0_write wsX0_put := goodIn_r _ [18, 19, 20, 21, 22, 72, 73, 74, 75, 76, 77, 78, 79, 80, 81, 82, 83, 84, 85, 86, 87, 88] (by decide +kernel) (by decide +kernel)
set_option maxRecDepth 20000 in
theorem gX0_write_X0_put : GoodIn wsX0_write (wsV RX0 139 RX0 yX0_put wsX0_put) := goodIn_app (goodIn_of _ (by decide +kernel)) ggX0_write_X0_put
set_option maxRecDepth 20000 in
theorem ggX0_write_X0_writeExpression : GoodIn wsX0_write wsX0_writeExpression := goodIn_r _ [26, 4, 6, 27, 28, 29, 30, 31, 32, 33, 34, 35, 36, 37, 38, 15, 16, 17, 11, 18, 19, 20, 21, 22, 39, 40, 41, 42, 43, 72, 73, 74, 75, 76, 77, 78, 79, 80, 81, 82, 83, 84, 85, 86, 87, 88, 108, 109, 110, 111, 112, 113, 114, 89, 90, 91, 92, 93, 94, 95, 96, 97, 98, 99, 100, 101, 102, 103, 104, 105, 106, 107] (by decide +kernel) (by decide +kernel)
set_option maxRecDepth 20000 in
theorem gX0_write_X0_writeExpression : GoodIn wsX0_write (wsV RX0 158 RX0 yX0_writeExpression wsX0_writeExpression) := goodIn_app (goodIn_of _ (by decide +kernel)) ggX0_write_X0_writeExpression
set_option maxRecDepth 20000 in
theorem ggX0_write_X0_writeCall : GoodIn wsX0_write wsX0_writeCall := goodIn_r _ [47, 4, 28, 6, 48, 49, 1, 2, 50, 51, 52, 53, 54, 55, 11, 56, 57, 14, 39, 40, 41, 42, 43, 29, 15, 16, 17, 18, 19, 20, 21, 22, 30, 31, 32, 33, 34, 35, 36, 37, 38, 72, 73, 74, 75, 76, 77, 78, 79, 80, 81, 82, 83, 84, 85, 86, 87, 88, 89, 90, 91, 92, 93, 94, 95, 96, 97, 98, 99, 100, 101, 102, 103, 104, 105, 106, 107, 108, 109, 110, 111, 112, 113, 114] (by decide +kernel) (by decide +kernel)
set_option maxRecDepth 20000 in
theorem gX0_write_X0_writeCall : GoodIn wsX0_write (wsV RX0 162 RX0 yX0_writeCall wsX0_writeCall) := goodIn_app (goodIn_of _ (by decide +kernel)) ggX0_write_X0_writeCall
set_option maxRecDepth 20000 in
theorem ggX0_write_X0_writeStatement : GoodIn wsX0_write wsX0_writeStatement := goodIn_r _ [61, 4, 62, 6, 27, 39, 40, 41, 11, 42, 43, 29, 15, 16, 17, 18, 19, 20, 21, 22, 63, 64, 65, 66, 51, 52, 1, 67, 2, 68, 69, 70, 71, 50, 53, 54, 55, 56, 57, 14, 72, 73, 74, 75, 76, 77, 78, 79, 80, 81, 82, 83, 84, 85, 86, 87, 88, 89, 90, 91, 92, 93, 94, 95, 96, 97, 98, 99, 100, 101, 102, 103, 104, 105, 106, 107, 108, 109, 110, 111, 112, 113, 114] (by decide +kernel) (by decide +kernel)
set_option maxRecDepth 20000 in
theorem gX0_write_X0_writeStatement : GoodIn wsX0_write (wsV RX0 165 RX0 yX0_writeStatement wsX0_writeStatement) := goodIn_app (goodIn_of _ (by decide +kernel)) ggX0_write_X0_writeStatement
theorem dX0_write_0 : decode cX0_write 0 = .ok (.aload_n 0, 1) := by decide +kernel
theorem dX0_write_1 : decode cX0_write 1 = .ok (.getfield 43, 3) := by decide +kernel
theorem dX0_write_4 : decode cX0_write 4 = .ok (.iload_n 1, 1) := by decide +kernel
theorem dX0_write_5 : decode cX0_write 5 = .ok (.iaload, 1) := by decide +kernel
theorem dX0_write_6 : decode cX0_write 6 = .ok (.aload_n 0, 1) := by decide +kernel
theorem dX0_write_7 : decode cX0_write 7 = .ok (.getfield 46, 3) := by decide +kernel
theorem dX0_write_10 : decode cX0_write 10 = .ok (.iload_n 1, 1) := by decide +kernel
theorem dX0_write_11 : decode cX0_write 11 = .ok (.iaload, 1) := by decide +kernel
theorem dX0_write_12 : decode cX0_write 12 = .ok (.iadd, 1) := by decide +kernel
theorem dX0_write_13 : decode cX0_write 13 = .ok (.iconst 1, 1) := by decide +kernel
theorem dX0_write_14 : decode cX0_write 14 = .ok (.isub, 1) := by decide +kernel
theorem dX0_write_15 : decode cX0_write 15 = .ok (.istore_n 2, 1) := by decide +kernel
theorem dX0_write_16 : decode cX0_write 16 = .ok (.aload_n 0, 1) := by decide +kernel
theorem dX0_write_17 : decode cX0_write 17 = .ok (.getfield 52, 3) := by decide +kernel
theorem dX0_write_20 : decode cX0_write 20 = .ok (.iload_n 1, 1) := by decide +kernel
theorem dX0_write_21 : decode cX0_write 21 = .ok (.baload, 1) := by decide +kernel
theorem dX0_write_22 : decode cX0_write 22 = .ok (.ifCond .eq 4, 3) := by decide +kernel
theorem dX0_write_25 : decode cX0_write 25 = .ok (.return_, 1) := by decide +kernel
theorem dX0_write_26 : decode cX0_write 26 = .ok (.aload_n 0, 1) := by decide +kernel
theorem dX0_write_27 : decode cX0_write 27 = .ok (.iload_n 1, 1) := by decide +kernel
theorem dX0_write_28 : decode cX0_write 28 = .ok (.invokevirtual 73, 3) := by decide +kernel
theorem dX0_write_31 : decode cX0_write 31 = .ok (.ifCond .eq 21, 3) := by decide +kernel
theorem dX0_write_34 : decode cX0_write 34 = .ok (.aload_n 0, 1) := by decide +kernel
theorem dX0_write_35 : decode cX0_write 35 = .ok (.iload_n 2, 1) := by decide +kernel
theorem dX0_write_36 : decode cX0_write 36 = .ok (.iconst 1, 1) := by decide +kernel
theorem dX0_write_37 : decode cX0_write 37 = .ok (.aload_n 0, 1) := by decide +kernel
theorem dX0_write_38 : decode cX0_write 38 = .ok (.getfield 64, 3) := by decide +kernel
theorem dX0_write_41 : decode cX0_write 41 = .ok (.getfield 155, 3) := by decide +kernel
theorem dX0_write_44 : decode cX0_write 44 = .ok (.iload_n 1, 1) := by decide +kernel
theorem dX0_write_45 : decode cX0_write 45 = .ok (.iaload, 1) := by decide +kernel
theorem dX0_write_46 : decode cX0_write 46 = .ok (.iconst 0, 1) := by decide +kernel
theorem dX0_write_47 : decode cX0_write 47 = .ok (.iload_n 1, 1) := by decide +kernel
theorem dX0_write_48 : decode cX0_write 48 = .ok (.invokevirtual 139, 3) := by decide +kernel
theorem dX0_write_51 : decode cX0_write 51 = .ok (.return_, 1) := by decide +kernel
theorem dX0_write_52 : decode cX0_write 52 = .ok (.aload_n 0, 1) := by decide +kernel
theorem dX0_write_53 : decode cX0_write 53 = .ok (.getfield 60, 3) := by decide +kernel
theorem dX0_write_56 : decode cX0_write 56 = .ok (.getfield 117, 3) := by decide +kernel
theorem dX0_write_59 : decode cX0_write 59 = .ok (.iload_n 1, 1) := by decide +kernel
theorem dX0_write_60 : decode cX0_write 60 = .ok (.iaload, 1) := by decide +kernel
theorem dX0_write_61 : decode cX0_write 61 = .ok (.istore_n 3, 1) := by decide +kernel
theorem dX0_write_62 : decode cX0_write 62 = .ok (.iload_n 3, 1) := by decide +kernel
theorem dX0_write_63 : decode cX0_write 63 = .ok (.bipush 7, 2) := by decide +kernel
theorem dX0_write_65 : decode cX0_write 65 = .ok (.if_icmp .gt 13, 3) := by decide +kernel
theorem dX0_write_68 : decode cX0_write 68 = .ok (.aload_n 0, 1) := by decide +kernel
theorem dX0_write_69 : decode cX0_write 69 = .ok (.iload_n 1, 1) := by decide +kernel
theorem dX0_write_70 : decode cX0_write 70 = .ok (.iload_n 3, 1) := by decide +kernel
theorem dX0_write_71 : decode cX0_write 71 = .ok (.iload_n 2, 1) := by decide +kernel
theorem dX0_write_72 : decode cX0_write 72 = .ok (.invokevirtual 158, 3) := by decide +kernel
theorem dX0_write_75 : decode cX0_write 75 = .ok (.goto 26, 3) := by decide +kernel
theorem dX0_write_78 : decode cX0_write 78 = .ok (.iload_n 3, 1) := by decide +kernel
theorem dX0_write_79 : decode cX0_write 79 = .ok (.bipush 11, 2) := by decide +kernel
theorem dX0_write_81 : decode cX0_write 81 = .ok (.if_icmp .gt 13, 3) := by decide +kernel
theorem dX0_write_84 : decode cX0_write 84 = .ok (.aload_n 0, 1) := by decide +kernel
theorem dX0_write_85 : decode cX0_write 85 = .ok (.iload_n 1, 1) := by decide +kernel
theorem dX0_write_86 : decode cX0_write 86 = .ok (.iload_n 3, 1) := by decide +kernel
theorem dX0_write_87 : decode cX0_write 87 = .ok (.iload_n 2, 1) := by decide +kernel
theorem dX0_write_88 : decode cX0_write 88 = .ok (.invokevirtual 162, 3) := by decide +kernel
theorem dX0_write_91 : decode cX0_write 91 = .ok (.goto 10, 3) := by decide +kernel
theorem dX0_write_94 : decode cX0_write 94 = .ok (.aload_n 0, 1) := by decide +kernel
theorem dX0_write_95 : decode cX0_write 95 = .ok (.iload_n 1, 1) := by decide +kernel
theorem dX0_write_96 : decode cX0_write 96 = .ok (.iload_n 3, 1) := by decide +kernel
theorem dX0_write_97 : decode cX0_write 97 = .ok (.iload_n 2, 1) := by decide +kernel
theorem dX0_write_98 : decode cX0_write 98 = .ok (.invokevirtual 165, 3) := by decide +kernel
theorem dX0_write_101 : decode cX0_write 101 = .ok (.return_, 1) := by decide +kernel
set_option maxRecDepth 20000 in
theorem ggX0_writeExpression_X4_modeOfPart : GoodIn wsX0_writeExpression wsX4_modeOfPart := goodIn_r _ [10, 11, 12, 13, 14, 53, 54, 55, 56, 57, 58, 59, 60, 61, 62, 63, 64, 65, 66, 67, 68, 69, 70, 71, 46, 47, 48, 49, 50, 51, 52] (by decide +kernel) (by decide +kernel)
set_option maxRecDepth 20000 in
theorem gX0_writeExpression_X4_modeOfPart : GoodIn wsX0_writeExpression (wsV RX0 168 RX4 yX4_modeOfPart wsX4_modeOfPart) := goodIn_app (goodIn_of _ (by decide +kernel)) ggX0_writeExpression_X4_modeOfPart
set_option maxRecDepth 20000 in
theorem ggX0_writeExpression_X0_put : GoodIn wsX0_writeExpression wsX0_put := goodIn_r _ [19, 20, 21, 22, 23, 29, 30, 31, 32, 33, 34, 35, 36, 37, 38, 39, 40, 41, 42, 43, 44, 45] (by decide +kernel) (by decide +kernel)
set_option maxRecDepth 20000 in
theorem gX0_writeExpression_X0_put : GoodIn wsX0_writeExpression (wsV RX0 139 RX0 yX0_put wsX0_put) := goodIn_app (goodIn_of _ (by decide +kernel)) ggX0_writeExpression_X0_put
set_option maxRecDepth 20000 in
theorem ggX0_writeExpression_X0_putNamed : GoodIn wsX0_writeExpression wsX0_putNamed := goodIn_r _ [27, 1, 28, 5, 15, 16, 17, 18, 19, 20, 21, 22, 23, 29, 30, 31, 32, 33, 34, 35, 36, 37, 38, 39, 40, 41, 42, 43, 44, 45, 53, 54, 55, 56, 57, 58, 59, 60, 61, 62, 63, 64, 65, 66, 67, 68, 69, 70, 71] (by decide +kernel) (by decide +kernel)
set_option maxRecDepth 20000 in
theorem gX0_writeExpression_X0_putNamed : GoodIn wsX0_writeExpression (wsV RX0 174 RX0 yX0_putNamed wsX0_putNamed) := goodIn_app (goodIn_of _ (by decide +kernel)) ggX0_writeExpression_X0_putNamed
theorem dX0_writeExpression_0 : decode cX0_writeExpression 0 = .ok (.aload_n 0, 1) := by decide +kernel
theorem dX0_writeExpression_1 : decode cX0_writeExpression 1 = .ok (.getfield 64, 3) := by decide +kernel
theorem dX0_writeExpression_4 : decode cX0_writeExpression 4 = .ok (.iload_n 1, 1) := by decide +kernel
theorem dX0_writeExpression_5 : decode cX0_writeExpression 5 = .ok (.invokevirtual 168, 3) := by decide +kernel
theorem dX0_writeExpression_8 : decode cX0_writeExpression 8 = .ok (.iconst 1, 1) := by decide +kernel
theorem dX0_writeExpression_9 : decode cX0_writeExpression 9 = .ok (.if_icmp .ne 7, 3) := by decide +kernel
theorem dX0_writeExpression_12 : decode cX0_writeExpression 12 = .ok (.iconst 1, 1) := by decide +kernel
theorem dX0_writeExpression_13 : decode cX0_writeExpression 13 = .ok (.goto 4, 3) := by decide +kernel
theorem dX0_writeExpression_16 : decode cX0_writeExpression 16 = .ok (.iconst 0, 1) := by decide +kernel
theorem dX0_writeExpression_17 : decode cX0_writeExpression 17 = .ok (.istore 4, 2) := by decide +kernel
theorem dX0_writeExpression_19 : decode cX0_writeExpression 19 = .ok (.iload_n 2, 1) := by decide +kernel
theorem dX0_writeExpression_20 : decode cX0_writeExpression 20 = .ok (.ifCond .ne 23, 3) := by decide +kernel
theorem dX0_writeExpression_23 : decode cX0_writeExpression 23 = .ok (.aload_n 0, 1) := by decide +kernel
theorem dX0_writeExpression_24 : decode cX0_writeExpression 24 = .ok (.iload_n 3, 1) := by decide +kernel
theorem dX0_writeExpression_25 : decode cX0_writeExpression 25 = .ok (.iconst 1, 1) := by decide +kernel
theorem dX0_writeExpression_26 : decode cX0_writeExpression 26 = .ok (.aload_n 0, 1) := by decide +kernel
theorem dX0_writeExpression_27 : decode cX0_writeExpression 27 = .ok (.getfield 60, 3) := by decide +kernel
theorem dX0_writeExpression_30 : decode cX0_writeExpression 30 = .ok (.getfield 123, 3) := by decide +kernel
theorem dX0_writeExpression_33 : decode cX0_writeExpression 33 = .ok (.iload_n 1, 1) := by decide +kernel
theorem dX0_writeExpression_34 : decode cX0_writeExpression 34 = .ok (.iaload, 1) := by decide +kernel
theorem dX0_writeExpression_35 : decode cX0_writeExpression 35 = .ok (.iconst 0, 1) := by decide +kernel
theorem dX0_writeExpression_36 : decode cX0_writeExpression 36 = .ok (.iload_n 1, 1) := by decide +kernel
theorem dX0_writeExpression_37 : decode cX0_writeExpression 37 = .ok (.invokevirtual 139, 3) := by decide +kernel
theorem dX0_writeExpression_40 : decode cX0_writeExpression 40 = .ok (.goto 103, 3) := by decide +kernel
theorem dX0_writeExpression_43 : decode cX0_writeExpression 43 = .ok (.iload_n 2, 1) := by decide +kernel
theorem dX0_writeExpression_44 : decode cX0_writeExpression 44 = .ok (.iconst 1, 1) := by decide +kernel
theorem dX0_writeExpression_45 : decode cX0_writeExpression 45 = .ok (.if_icmp .ne 37, 3) := by decide +kernel
theorem dX0_writeExpression_48 : decode cX0_writeExpression 48 = .ok (.aload_n 0, 1) := by decide +kernel
theorem dX0_writeExpression_49 : decode cX0_writeExpression 49 = .ok (.getfield 64, 3) := by decide +kernel
theorem dX0_writeExpression_52 : decode cX0_writeExpression 52 = .ok (.getfield 171, 3) := by decide +kernel
theorem dX0_writeExpression_55 : decode cX0_writeExpression 55 = .ok (.iload_n 1, 1) := by decide +kernel
theorem dX0_writeExpression_56 : decode cX0_writeExpression 56 = .ok (.iaload, 1) := by decide +kernel
theorem dX0_writeExpression_57 : decode cX0_writeExpression 57 = .ok (.bipush 9, 2) := by decide +kernel
theorem dX0_writeExpression_59 : decode cX0_writeExpression 59 = .ok (.if_icmp .ne 23, 3) := by decide +kernel
theorem dX0_writeExpression_62 : decode cX0_writeExpression 62 = .ok (.aload_n 0, 1) := by decide +kernel
theorem dX0_writeExpression_63 : decode cX0_writeExpression 63 = .ok (.iload_n 3, 1) := by decide +kernel
theorem dX0_writeExpression_64 : decode cX0_writeExpression 64 = .ok (.iconst 1, 1) := by decide +kernel
theorem dX0_writeExpression_65 : decode cX0_writeExpression 65 = .ok (.aload_n 0, 1) := by decide +kernel
theorem dX0_writeExpression_66 : decode cX0_writeExpression 66 = .ok (.getfield 64, 3) := by decide +kernel
theorem dX0_writeExpression_69 : decode cX0_writeExpression 69 = .ok (.getfield 152, 3) := by decide +kernel
theorem dX0_writeExpression_72 : decode cX0_writeExpression 72 = .ok (.iload_n 1, 1) := by decide +kernel
theorem dX0_writeExpression_73 : decode cX0_writeExpression 73 = .ok (.iaload, 1) := by decide +kernel
theorem dX0_writeExpression_74 : decode cX0_writeExpression 74 = .ok (.iconst 0, 1) := by decide +kernel
theorem dX0_writeExpression_75 : decode cX0_writeExpression 75 = .ok (.iload_n 1, 1) := by decide +kernel
theorem dX0_writeExpression_76 : decode cX0_writeExpression 76 = .ok (.invokevirtual 139, 3) := by decide +kernel
theorem dX0_writeExpression_79 : decode cX0_writeExpression 79 = .ok (.goto 64, 3) := by decide +kernel
theorem dX0_writeExpression_82 : decode cX0_writeExpression 82 = .ok (.iload_n 2, 1) := by decide +kernel
theorem dX0_writeExpression_83 : decode cX0_writeExpression 83 = .ok (.iconst 1, 1) := by decide +kernel
theorem dX0_writeExpression_84 : decode cX0_writeExpression 84 = .ok (.if_icmp .ne 23, 3) := by decide +kernel
theorem dX0_writeExpression_87 : decode cX0_writeExpression 87 = .ok (.aload_n 0, 1) := by decide +kernel
theorem dX0_writeExpression_88 : decode cX0_writeExpression 88 = .ok (.iload_n 3, 1) := by decide +kernel
theorem dX0_writeExpression_89 : decode cX0_writeExpression 89 = .ok (.iload 4, 2) := by decide +kernel
theorem dX0_writeExpression_91 : decode cX0_writeExpression 91 = .ok (.ifCond .eq 8, 3) := by decide +kernel
theorem dX0_writeExpression_94 : decode cX0_writeExpression 94 = .ok (.bipush 12, 2) := by decide +kernel
theorem dX0_writeExpression_96 : decode cX0_writeExpression 96 = .ok (.goto 4, 3) := by decide +kernel
theorem dX0_writeExpression_99 : decode cX0_writeExpression 99 = .ok (.iconst 2, 1) := by decide +kernel
theorem dX0_writeExpression_100 : decode cX0_writeExpression 100 = .ok (.iload_n 1, 1) := by decide +kernel
theorem dX0_writeExpression_101 : decode cX0_writeExpression 101 = .ok (.invokevirtual 174, 3) := by decide +kernel
theorem dX0_writeExpression_104 : decode cX0_writeExpression 104 = .ok (.goto 39, 3) := by decide +kernel
theorem dX0_writeExpression_107 : decode cX0_writeExpression 107 = .ok (.iload_n 2, 1) := by decide +kernel
theorem dX0_writeExpression_108 : decode cX0_writeExpression 108 = .ok (.iconst 2, 1) := by decide +kernel
theorem dX0_writeExpression_109 : decode cX0_writeExpression 109 = .ok (.if_icmp .ne 23, 3) := by decide +kernel
theorem dX0_writeExpression_112 : decode cX0_writeExpression 112 = .ok (.aload_n 0, 1) := by decide +kernel
theorem dX0_writeExpression_113 : decode cX0_writeExpression 113 = .ok (.iload_n 3, 1) := by decide +kernel
theorem dX0_writeExpression_114 : decode cX0_writeExpression 114 = .ok (.iload 4, 2) := by decide +kernel
theorem dX0_writeExpression_116 : decode cX0_writeExpression 116 = .ok (.ifCond .eq 8, 3) := by decide +kernel
theorem dX0_writeExpression_119 : decode cX0_writeExpression 119 = .ok (.bipush 13, 2) := by decide +kernel
theorem dX0_writeExpression_121 : decode cX0_writeExpression 121 = .ok (.goto 4, 3) := by decide +kernel
theorem dX0_writeExpression_124 : decode cX0_writeExpression 124 = .ok (.iconst 3, 1) := by decide +kernel
theorem dX0_writeExpression_125 : decode cX0_writeExpression 125 = .ok (.iload_n 1, 1) := by decide +kernel
theorem dX0_writeExpression_126 : decode cX0_writeExpression 126 = .ok (.invokevirtual 174, 3) := by decide +kernel
theorem dX0_writeExpression_129 : decode cX0_writeExpression 129 = .ok (.goto 14, 3) := by decide +kernel
theorem dX0_writeExpression_132 : decode cX0_writeExpression 132 = .ok (.aload_n 0, 1) := by decide +kernel
theorem dX0_writeExpression_133 : decode cX0_writeExpression 133 = .ok (.iload_n 3, 1) := by decide +kernel
theorem dX0_writeExpression_134 : decode cX0_writeExpression 134 = .ok (.iload_n 2, 1) := by decide +kernel
theorem dX0_writeExpression_135 : decode cX0_writeExpression 135 = .ok (.iconst 1, 1) := by decide +kernel
theorem dX0_writeExpression_136 : decode cX0_writeExpression 136 = .ok (.iadd, 1) := by decide +kernel
theorem dX0_writeExpression_137 : decode cX0_writeExpression 137 = .ok (.iconst 0, 1) := by decide +kernel
theorem dX0_writeExpression_138 : decode cX0_writeExpression 138 = .ok (.iconst 0, 1) := by decide +kernel
theorem dX0_writeExpression_139 : decode cX0_writeExpression 139 = .ok (.iload_n 1, 1) := by decide +kernel
theorem dX0_writeExpression_140 : decode cX0_writeExpression 140 = .ok (.invokevirtual 139, 3) := by decide +kernel
theorem dX0_writeExpression_143 : decode cX0_writeExpression 143 = .ok (.return_, 1) := by decide +kernel
set_option maxRecDepth 20000 in
theorem ggX0_writeCall_X0_isJump : GoodIn wsX0_writeCall wsX0_isJump := goodIn_r _ [15, 1, 16, 17, 41, 42, 43, 44, 45, 46, 47, 48, 49, 50, 51, 52, 53, 54, 55, 56, 57, 58, 59, 60, 61, 62, 63, 64, 65, 66, 67, 68, 69, 70, 71, 72, 73, 74, 75, 76] (by decide +kernel) (by decide +kernel)
set_option maxRecDepth 20000 in
theorem gX0_writeCall_X0_isJump : GoodIn wsX0_writeCall (wsV RX0 126 RX0 yX0_isJump wsX0_isJump) := goodIn_app (goodIn_of _ (by decide +kernel)) ggX0_writeCall_X0_isJump
set_option maxRecDepth 20000 in
theorem ggX0_writeCall_X0_putNamed : GoodIn wsX0_writeCall wsX0_putNamed := goodIn_r _ [21, 1, 22, 23, 24, 25, 26, 14, 27, 28, 29, 30, 31, 41, 42, 43, 44, 45, 46, 47, 48, 49, 50, 51, 52, 53, 54, 55, 56, 57, 58, 59, 60, 61, 62, 63, 64, 65, 66, 67, 68, 69, 70, 71, 72, 73, 74, 75, 76] (by decide +kernel) (by decide +kernel)
set_option maxRecDepth 20000 in
theorem gX0_writeCall_X0_putNamed : GoodIn wsX0_writeCall (wsV RX0 174 RX0 yX0_putNamed wsX0_putNamed) := goodIn_app (goodIn_of _ (by decide +kernel)) ggX0_writeCall_X0_putNamed
set_option maxRecDepth 20000 in
theorem ggX0_writeCall_X4_modeOfPart : GoodIn wsX0_writeCall wsX4_modeOfPart := goodIn_r _ [36, 37, 38, 39, 40, 58, 59, 60, 61, 62, 63, 64, 65, 66, 67, 68, 69, 70, 71, 72, 73, 74, 75, 76, 77, 78, 79, 80, 81, 82, 83] (by decide +kernel) (by decide +kernel)
set_option maxRecDepth 20000 in
theorem gX0_writeCall_X4_modeOfPart : GoodIn wsX0_writeCall (wsV RX0 168 RX4 yX4_modeOfPart wsX4_modeOfPart) := goodIn_app (goodIn_of _ (by decide +kernel)) ggX0_writeCall_X4_modeOfPart
set_option maxRecDepth 20000 in
theorem ggX0_writeCall_X0_put : GoodIn wsX0_writeCall wsX0_put := goodIn_r _ [27, 28, 29, 30, 31, 41, 42, 43, 44, 45, 46, 47, 48, 49, 50, 51, 52, 53, 54, 55, 56, 57] (by decide +kernel) (by decide +kernel)
set_option maxRecDepth 20000 in
theorem gX0_writeCall_X0_put : GoodIn wsX0_writeCall (wsV RX0 139 RX0 yX0_put wsX0_put) := goodIn_app (goodIn_of _ (by decide +kernel)) ggX0_writeCall_X0_put
theorem dX0_writeCall_0 : decode cX0_writeCall 0 = .ok (.aload_n 0, 1) := by decide +kernel
theorem dX0_writeCall_1 : decode cX0_writeCall 1 = .ok (.getfield 64, 3) := by decide +kernel
theorem dX0_writeCall_4 : decode cX0_writeCall 4 = .ok (.getfield 171, 3) := by decide +kernel
theorem dX0_writeCall_7 : decode cX0_writeCall 7 = .ok (.iload_n 1, 1) := by decide +kernel
theorem dX0_writeCall_8 : decode cX0_writeCall 8 = .ok (.iaload, 1) := by decide +kernel
theorem dX0_writeCall_9 : decode cX0_writeCall 9 = .ok (.bipush 10, 2) := by decide +kernel
theorem dX0_writeCall_11 : decode cX0_writeCall 11 = .ok (.if_icmp .ne 7, 3) := by decide +kernel
theorem dX0_writeCall_14 : decode cX0_writeCall 14 = .ok (.iconst 1, 1) := by decide +kernel
theorem dX0_writeCall_15 : decode cX0_writeCall 15 = .ok (.goto 4, 3) := by decide +kernel
theorem dX0_writeCall_18 : decode cX0_writeCall 18 = .ok (.iconst 0, 1) := by decide +kernel
theorem dX0_writeCall_19 : decode cX0_writeCall 19 = .ok (.istore 4, 2) := by decide +kernel
theorem dX0_writeCall_21 : decode cX0_writeCall 21 = .ok (.iload_n 2, 1) := by decide +kernel
theorem dX0_writeCall_22 : decode cX0_writeCall 22 = .ok (.bipush 8, 2) := by decide +kernel
theorem dX0_writeCall_24 : decode cX0_writeCall 24 = .ok (.if_icmp .ne 50, 3) := by decide +kernel
theorem dX0_writeCall_27 : decode cX0_writeCall 27 = .ok (.iload 4, 2) := by decide +kernel
theorem dX0_writeCall_29 : decode cX0_writeCall 29 = .ok (.ifCond .eq 45, 3) := by decide +kernel
theorem dX0_writeCall_32 : decode cX0_writeCall 32 = .ok (.aload_n 0, 1) := by decide +kernel
theorem dX0_writeCall_33 : decode cX0_writeCall 33 = .ok (.getfield 60, 3) := by decide +kernel
theorem dX0_writeCall_36 : decode cX0_writeCall 36 = .ok (.getfield 177, 3) := by decide +kernel
theorem dX0_writeCall_39 : decode cX0_writeCall 39 = .ok (.iload_n 1, 1) := by decide +kernel
theorem dX0_writeCall_40 : decode cX0_writeCall 40 = .ok (.iaload, 1) := by decide +kernel
theorem dX0_writeCall_41 : decode cX0_writeCall 41 = .ok (.istore 5, 2) := by decide +kernel
theorem dX0_writeCall_43 : decode cX0_writeCall 43 = .ok (.aload_n 0, 1) := by decide +kernel
theorem dX0_writeCall_44 : decode cX0_writeCall 44 = .ok (.iload_n 3, 1) := by decide +kernel
theorem dX0_writeCall_45 : decode cX0_writeCall 45 = .ok (.iload 5, 2) := by decide +kernel
theorem dX0_writeCall_47 : decode cX0_writeCall 47 = .ok (.iconst (-1), 1) := by decide +kernel
theorem dX0_writeCall_48 : decode cX0_writeCall 48 = .ok (.if_icmp .eq 17, 3) := by decide +kernel
theorem dX0_writeCall_51 : decode cX0_writeCall 51 = .ok (.aload_n 0, 1) := by decide +kernel
theorem dX0_writeCall_52 : decode cX0_writeCall 52 = .ok (.iload 5, 2) := by decide +kernel
theorem dX0_writeCall_54 : decode cX0_writeCall 54 = .ok (.invokevirtual 126, 3) := by decide +kernel
theorem dX0_writeCall_57 : decode cX0_writeCall 57 = .ok (.ifCond .eq 8, 3) := by decide +kernel
theorem dX0_writeCall_60 : decode cX0_writeCall 60 = .ok (.bipush 11, 2) := by decide +kernel
theorem dX0_writeCall_62 : decode cX0_writeCall 62 = .ok (.goto 5, 3) := by decide +kernel
theorem dX0_writeCall_65 : decode cX0_writeCall 65 = .ok (.bipush 9, 2) := by decide +kernel
theorem dX0_writeCall_67 : decode cX0_writeCall 67 = .ok (.iload_n 1, 1) := by decide +kernel
theorem dX0_writeCall_68 : decode cX0_writeCall 68 = .ok (.invokevirtual 174, 3) := by decide +kernel
theorem dX0_writeCall_71 : decode cX0_writeCall 71 = .ok (.goto 162, 3) := by decide +kernel
theorem dX0_writeCall_74 : decode cX0_writeCall 74 = .ok (.iload_n 2, 1) := by decide +kernel
theorem dX0_writeCall_75 : decode cX0_writeCall 75 = .ok (.bipush 8, 2) := by decide +kernel
theorem dX0_writeCall_77 : decode cX0_writeCall 77 = .ok (.if_icmp .ne 14, 3) := by decide +kernel
theorem dX0_writeCall_80 : decode cX0_writeCall 80 = .ok (.aload_n 0, 1) := by decide +kernel
theorem dX0_writeCall_81 : decode cX0_writeCall 81 = .ok (.iload_n 3, 1) := by decide +kernel
theorem dX0_writeCall_82 : decode cX0_writeCall 82 = .ok (.bipush 10, 2) := by decide +kernel
theorem dX0_writeCall_84 : decode cX0_writeCall 84 = .ok (.iload_n 1, 1) := by decide +kernel
theorem dX0_writeCall_85 : decode cX0_writeCall 85 = .ok (.invokevirtual 174, 3) := by decide +kernel
theorem dX0_writeCall_88 : decode cX0_writeCall 88 = .ok (.goto 145, 3) := by decide +kernel
theorem dX0_writeCall_91 : decode cX0_writeCall 91 = .ok (.iload_n 2, 1) := by decide +kernel
theorem dX0_writeCall_92 : decode cX0_writeCall 92 = .ok (.bipush 10, 2) := by decide +kernel
theorem dX0_writeCall_94 : decode cX0_writeCall 94 = .ok (.if_icmp .ne 23, 3) := by decide +kernel
theorem dX0_writeCall_97 : decode cX0_writeCall 97 = .ok (.aload_n 0, 1) := by decide +kernel
theorem dX0_writeCall_98 : decode cX0_writeCall 98 = .ok (.iload_n 3, 1) := by decide +kernel
theorem dX0_writeCall_99 : decode cX0_writeCall 99 = .ok (.iload 4, 2) := by decide +kernel
theorem dX0_writeCall_101 : decode cX0_writeCall 101 = .ok (.ifCond .eq 8, 3) := by decide +kernel
theorem dX0_writeCall_104 : decode cX0_writeCall 104 = .ok (.bipush 18, 2) := by decide +kernel
theorem dX0_writeCall_106 : decode cX0_writeCall 106 = .ok (.goto 4, 3) := by decide +kernel
theorem dX0_writeCall_109 : decode cX0_writeCall 109 = .ok (.iconst 2, 1) := by decide +kernel
theorem dX0_writeCall_110 : decode cX0_writeCall 110 = .ok (.iload_n 1, 1) := by decide +kernel
theorem dX0_writeCall_111 : decode cX0_writeCall 111 = .ok (.invokevirtual 174, 3) := by decide +kernel
theorem dX0_writeCall_114 : decode cX0_writeCall 114 = .ok (.goto 119, 3) := by decide +kernel
theorem dX0_writeCall_117 : decode cX0_writeCall 117 = .ok (.iload_n 2, 1) := by decide +kernel
theorem dX0_writeCall_118 : decode cX0_writeCall 118 = .ok (.bipush 11, 2) := by decide +kernel
theorem dX0_writeCall_120 : decode cX0_writeCall 120 = .ok (.if_icmp .ne 31, 3) := by decide +kernel
theorem dX0_writeCall_123 : decode cX0_writeCall 123 = .ok (.aload_n 0, 1) := by decide +kernel
theorem dX0_writeCall_124 : decode cX0_writeCall 124 = .ok (.iload_n 3, 1) := by decide +kernel
theorem dX0_writeCall_125 : decode cX0_writeCall 125 = .ok (.aload_n 0, 1) := by decide +kernel
theorem dX0_writeCall_126 : decode cX0_writeCall 126 = .ok (.getfield 64, 3) := by decide +kernel
theorem dX0_writeCall_129 : decode cX0_writeCall 129 = .ok (.iload_n 1, 1) := by decide +kernel
theorem dX0_writeCall_130 : decode cX0_writeCall 130 = .ok (.invokevirtual 168, 3) := by decide +kernel
theorem dX0_writeCall_133 : decode cX0_writeCall 133 = .ok (.iconst 3, 1) := by decide +kernel
theorem dX0_writeCall_134 : decode cX0_writeCall 134 = .ok (.if_icmp .ne 8, 3) := by decide +kernel
theorem dX0_writeCall_137 : decode cX0_writeCall 137 = .ok (.bipush 16, 2) := by decide +kernel
theorem dX0_writeCall_139 : decode cX0_writeCall 139 = .ok (.goto 5, 3) := by decide +kernel
theorem dX0_writeCall_142 : decode cX0_writeCall 142 = .ok (.bipush 17, 2) := by decide +kernel
theorem dX0_writeCall_144 : decode cX0_writeCall 144 = .ok (.iload_n 1, 1) := by decide +kernel
theorem dX0_writeCall_145 : decode cX0_writeCall 145 = .ok (.invokevirtual 174, 3) := by decide +kernel
theorem dX0_writeCall_148 : decode cX0_writeCall 148 = .ok (.goto 85, 3) := by decide +kernel
theorem dX0_writeCall_151 : decode cX0_writeCall 151 = .ok (.aload_n 0, 1) := by decide +kernel
theorem dX0_writeCall_152 : decode cX0_writeCall 152 = .ok (.getfield 64, 3) := by decide +kernel
theorem dX0_writeCall_155 : decode cX0_writeCall 155 = .ok (.getfield 120, 3) := by decide +kernel
theorem dX0_writeCall_158 : decode cX0_writeCall 158 = .ok (.iload_n 1, 1) := by decide +kernel
theorem dX0_writeCall_159 : decode cX0_writeCall 159 = .ok (.iaload, 1) := by decide +kernel
theorem dX0_writeCall_160 : decode cX0_writeCall 160 = .ok (.iconst 2, 1) := by decide +kernel
theorem dX0_writeCall_161 : decode cX0_writeCall 161 = .ok (.if_icmp .ne 72, 3) := by decide +kernel
theorem dX0_writeCall_164 : decode cX0_writeCall 164 = .ok (.aload_n 0, 1) := by decide +kernel
theorem dX0_writeCall_165 : decode cX0_writeCall 165 = .ok (.getfield 43, 3) := by decide +kernel
theorem dX0_writeCall_168 : decode cX0_writeCall 168 = .ok (.iload_n 1, 1) := by decide +kernel
theorem dX0_writeCall_169 : decode cX0_writeCall 169 = .ok (.iaload, 1) := by decide +kernel
theorem dX0_writeCall_170 : decode cX0_writeCall 170 = .ok (.iconst 1, 1) := by decide +kernel
theorem dX0_writeCall_171 : decode cX0_writeCall 171 = .ok (.iadd, 1) := by decide +kernel
theorem dX0_writeCall_172 : decode cX0_writeCall 172 = .ok (.aload_n 0, 1) := by decide +kernel
theorem dX0_writeCall_173 : decode cX0_writeCall 173 = .ok (.getfield 46, 3) := by decide +kernel
theorem dX0_writeCall_176 : decode cX0_writeCall 176 = .ok (.aload_n 0, 1) := by decide +kernel
theorem dX0_writeCall_177 : decode cX0_writeCall 177 = .ok (.getfield 60, 3) := by decide +kernel
theorem dX0_writeCall_180 : decode cX0_writeCall 180 = .ok (.getfield 180, 3) := by decide +kernel
theorem dX0_writeCall_183 : decode cX0_writeCall 183 = .ok (.iload_n 1, 1) := by decide +kernel
theorem dX0_writeCall_184 : decode cX0_writeCall 184 = .ok (.iaload, 1) := by decide +kernel
theorem dX0_writeCall_185 : decode cX0_writeCall 185 = .ok (.iaload, 1) := by decide +kernel
theorem dX0_writeCall_186 : decode cX0_writeCall 186 = .ok (.iadd, 1) := by decide +kernel
theorem dX0_writeCall_187 : decode cX0_writeCall 187 = .ok (.istore 5, 2) := by decide +kernel
theorem dX0_writeCall_189 : decode cX0_writeCall 189 = .ok (.aload_n 0, 1) := by decide +kernel
theorem dX0_writeCall_190 : decode cX0_writeCall 190 = .ok (.aload_n 0, 1) := by decide +kernel
theorem dX0_writeCall_191 : decode cX0_writeCall 191 = .ok (.getfield 43, 3) := by decide +kernel
theorem dX0_writeCall_194 : decode cX0_writeCall 194 = .ok (.iload_n 1, 1) := by decide +kernel
theorem dX0_writeCall_195 : decode cX0_writeCall 195 = .ok (.iaload, 1) := by decide +kernel
theorem dX0_writeCall_196 : decode cX0_writeCall 196 = .ok (.bipush 14, 2) := by decide +kernel
theorem dX0_writeCall_198 : decode cX0_writeCall 198 = .ok (.iload 5, 2) := by decide +kernel
theorem dX0_writeCall_200 : decode cX0_writeCall 200 = .ok (.iconst 1, 1) := by decide +kernel
theorem dX0_writeCall_201 : decode cX0_writeCall 201 = .ok (.iadd, 1) := by decide +kernel
theorem dX0_writeCall_202 : decode cX0_writeCall 202 = .ok (.aload_n 0, 1) := by decide +kernel
theorem dX0_writeCall_203 : decode cX0_writeCall 203 = .ok (.getfield 18, 3) := by decide +kernel
theorem dX0_writeCall_206 : decode cX0_writeCall 206 = .ok (.aload_n 0, 1) := by decide +kernel
theorem dX0_writeCall_207 : decode cX0_writeCall 207 = .ok (.getfield 64, 3) := by decide +kernel
theorem dX0_writeCall_210 : decode cX0_writeCall 210 = .ok (.getfield 96, 3) := by decide +kernel
theorem dX0_writeCall_213 : decode cX0_writeCall 213 = .ok (.iload_n 1, 1) := by decide +kernel
theorem dX0_writeCall_214 : decode cX0_writeCall 214 = .ok (.iaload, 1) := by decide +kernel
theorem dX0_writeCall_215 : decode cX0_writeCall 215 = .ok (.iaload, 1) := by decide +kernel
theorem dX0_writeCall_216 : decode cX0_writeCall 216 = .ok (.isub, 1) := by decide +kernel
theorem dX0_writeCall_217 : decode cX0_writeCall 217 = .ok (.iconst 0, 1) := by decide +kernel
theorem dX0_writeCall_218 : decode cX0_writeCall 218 = .ok (.iload_n 1, 1) := by decide +kernel
theorem dX0_writeCall_219 : decode cX0_writeCall 219 = .ok (.invokevirtual 139, 3) := by decide +kernel
theorem dX0_writeCall_222 : decode cX0_writeCall 222 = .ok (.aload_n 0, 1) := by decide +kernel
theorem dX0_writeCall_223 : decode cX0_writeCall 223 = .ok (.iload 5, 2) := by decide +kernel
theorem dX0_writeCall_225 : decode cX0_writeCall 225 = .ok (.bipush 15, 2) := by decide +kernel
theorem dX0_writeCall_227 : decode cX0_writeCall 227 = .ok (.iconst 0, 1) := by decide +kernel
theorem dX0_writeCall_228 : decode cX0_writeCall 228 = .ok (.iconst 0, 1) := by decide +kernel
theorem dX0_writeCall_229 : decode cX0_writeCall 229 = .ok (.iload_n 1, 1) := by decide +kernel
theorem dX0_writeCall_230 : decode cX0_writeCall 230 = .ok (.invokevirtual 139, 3) := by decide +kernel
theorem dX0_writeCall_233 : decode cX0_writeCall 233 = .ok (.return_, 1) := by decide +kernel
set_option maxRecDepth 20000 in
theorem ggX0_writeStatement_X0_putNamed : GoodIn wsX0_writeStatement wsX0_putNamed := goodIn_r _ [9, 1, 10, 11, 12, 13, 14, 8, 15, 16, 17, 18, 19, 40, 41, 42, 43, 44, 45, 46, 47, 48, 49, 50, 51, 52, 53, 54, 55, 56, 57, 58, 59, 60, 61, 62, 63, 64, 65, 66, 67, 68, 69, 70, 71, 72, 73, 74, 75] (by decide +kernel) (by decide +kernel)
set_option maxRecDepth 20000 in
theorem gX0_writeStatement_X0_putNamed : GoodIn wsX0_writeStatement (wsV RX0 174 RX0 yX0_putNamed wsX0_putNamed) := goodIn_app (goodIn_of _ (by decide +kernel)) ggX0_writeStatement_X0_putNamed
set_option maxRecDepth 20000 in
theorem ggX0_writeStatement_X0_writeIf : GoodIn wsX0_writeStatement wsX0_writeIf := goodIn_r _ [23, 24, 1, 25, 26, 3, 27, 28, 4, 12, 13, 14, 8, 15, 16, 17, 18, 19, 40, 41, 42, 43, 44, 45, 46, 47, 48, 49, 50, 51, 52, 53, 54, 55, 56, 57, 58, 59, 60, 61, 62, 63, 64, 65, 66, 67, 68, 69, 70, 71, 72, 73, 74, 75, 76, 77, 78, 79, 80, 81, 82] (by decide +kernel) (by decide +kernel)
set_option maxRecDepth 20000 in
theorem gX0_writeStatement_X0_writeIf : GoodIn wsX0_writeStatement (wsV RX0 183 RX0 yX0_writeIf wsX0_writeIf) := goodIn_app (goodIn_of _ (by decide +kernel)) ggX0_writeStatement_X0_writeIf
set_option maxRecDepth 20000 in
theorem ggX0_writeStatement_X0_writeLoop : GoodIn wsX0_writeStatement wsX0_writeLoop := goodIn_r _ [32, 24, 1, 25, 26, 3, 4, 27, 33, 12, 13, 14, 8, 15, 16, 17, 18, 19, 40, 41, 42, 43, 44, 45, 46, 47, 48, 49, 50, 51, 52, 53, 54, 55, 56, 57, 58, 59, 60, 61, 62, 63, 64, 65, 66, 67, 68, 69, 70, 71, 72, 73, 74, 75, 76, 77, 78, 79, 80, 81, 82] (by decide +kernel) (by decide +kernel)
set_option maxRecDepth 20000 in
theorem gX0_writeStatement_X0_writeLoop : GoodIn wsX0_writeStatement (wsV RX0 186 RX0 yX0_writeLoop wsX0_writeLoop) := goodIn_app (goodIn_of _ (by decide +kernel)) ggX0_writeStatement_X0_writeLoop
set_option maxRecDepth 20000 in
theorem ggX0_writeStatement_X0_put : GoodIn wsX0_writeStatement wsX0_put := goodIn_r _ [15, 16, 17, 18, 19, 40, 41, 42, 43, 44, 45, 46, 47, 48, 49, 50, 51, 52, 53, 54, 55, 56] (by decide +kernel) (by decide +kernel)
set_option maxRecDepth 20000 in
theorem gX0_writeStatement_X0_put : GoodIn wsX0_writeStatement (wsV RX0 139 RX0 yX0_put wsX0_put) := goodIn_app (goodIn_of _ (by decide +kernel)) ggX0_writeStatement_X0_put
set_option maxRecDepth 20000 in
theorem ggX0_writeStatement_X0_isJump : GoodIn wsX0_writeStatement wsX0_isJump := goodIn_r _ [37, 1, 38, 39, 40, 41, 42, 43, 44, 45, 46, 47, 48, 49, 50, 51, 52, 53, 54, 55, 56, 57, 58, 59, 60, 61, 62, 63, 64, 65, 66, 67, 68, 69, 70, 71, 72, 73, 74, 75] (by decide +kernel) (by decide +kernel)
set_option maxRecDepth 20000 in
theorem gX0_writeStatement_X0_isJump : GoodIn wsX0_writeStatement (wsV RX0 126 RX0 yX0_isJump wsX0_isJump) := goodIn_app (goodIn_of _ (by decide +kernel)) ggX0_writeStatement_X0_isJump
theorem dX0_writeStatement_0 : decode cX0_writeStatement 0 = .ok (.iload_n 2, 1) := by decide +kernel
theorem dX0_writeStatement_1 : decode cX0_writeStatement 1 = .ok (.tableswitch 166 13 21 #[51, 62, 73, 81, 90, 119, 140, 153, 51], 51) := by decide +kernel
theorem dX0_writeStatement_52 : decode cX0_writeStatement 52 = .ok (.aload_n 0, 1) := by decide +kernel
theorem dX0_writeStatement_53 : decode cX0_writeStatement 53 = .ok (.iload_n 3, 1) := by decide +kernel
theorem dX0_writeStatement_54 : decode cX0_writeStatement 54 = .ok (.bipush 19, 2) := by decide +kernel
theorem dX0_writeStatement_56 : decode cX0_writeStatement 56 = .ok (.iload_n 1, 1) := by decide +kernel
theorem dX0_writeStatement_57 : decode cX0_writeStatement 57 = .ok (.invokevirtual 174, 3) := by decide +kernel
theorem dX0_writeStatement_60 : decode cX0_writeStatement 60 = .ok (.goto 107, 3) := by decide +kernel
theorem dX0_writeStatement_63 : decode cX0_writeStatement 63 = .ok (.aload_n 0, 1) := by decide +kernel
theorem dX0_writeStatement_64 : decode cX0_writeStatement 64 = .ok (.iload_n 3, 1) := by decide +kernel
theorem dX0_writeStatement_65 : decode cX0_writeStatement 65 = .ok (.bipush 20, 2) := by decide +kernel
theorem dX0_writeStatement_67 : decode cX0_writeStatement 67 = .ok (.iload_n 1, 1) := by decide +kernel
theorem dX0_writeStatement_68 : decode cX0_writeStatement 68 = .ok (.invokevirtual 174, 3) := by decide +kernel
theorem dX0_writeStatement_71 : decode cX0_writeStatement 71 = .ok (.goto 96, 3) := by decide +kernel
theorem dX0_writeStatement_74 : decode cX0_writeStatement 74 = .ok (.aload_n 0, 1) := by decide +kernel
theorem dX0_writeStatement_75 : decode cX0_writeStatement 75 = .ok (.iload_n 1, 1) := by decide +kernel
theorem dX0_writeStatement_76 : decode cX0_writeStatement 76 = .ok (.invokevirtual 183, 3) := by decide +kernel
theorem dX0_writeStatement_79 : decode cX0_writeStatement 79 = .ok (.goto 88, 3) := by decide +kernel
theorem dX0_writeStatement_82 : decode cX0_writeStatement 82 = .ok (.aload_n 0, 1) := by decide +kernel
theorem dX0_writeStatement_83 : decode cX0_writeStatement 83 = .ok (.iload_n 1, 1) := by decide +kernel
theorem dX0_writeStatement_84 : decode cX0_writeStatement 84 = .ok (.iload_n 3, 1) := by decide +kernel
theorem dX0_writeStatement_85 : decode cX0_writeStatement 85 = .ok (.invokevirtual 186, 3) := by decide +kernel
theorem dX0_writeStatement_88 : decode cX0_writeStatement 88 = .ok (.goto 79, 3) := by decide +kernel
theorem dX0_writeStatement_91 : decode cX0_writeStatement 91 = .ok (.aload_n 0, 1) := by decide +kernel
theorem dX0_writeStatement_92 : decode cX0_writeStatement 92 = .ok (.iload_n 3, 1) := by decide +kernel
theorem dX0_writeStatement_93 : decode cX0_writeStatement 93 = .ok (.bipush 25, 2) := by decide +kernel
theorem dX0_writeStatement_95 : decode cX0_writeStatement 95 = .ok (.aload_n 0, 1) := by decide +kernel
theorem dX0_writeStatement_96 : decode cX0_writeStatement 96 = .ok (.getfield 64, 3) := by decide +kernel
theorem dX0_writeStatement_99 : decode cX0_writeStatement 99 = .ok (.getfield 189, 3) := by decide +kernel
theorem dX0_writeStatement_102 : decode cX0_writeStatement 102 = .ok (.iload_n 1, 1) := by decide +kernel
theorem dX0_writeStatement_103 : decode cX0_writeStatement 103 = .ok (.iaload, 1) := by decide +kernel
theorem dX0_writeStatement_104 : decode cX0_writeStatement 104 = .ok (.aload_n 0, 1) := by decide +kernel
theorem dX0_writeStatement_105 : decode cX0_writeStatement 105 = .ok (.getfield 60, 3) := by decide +kernel
theorem dX0_writeStatement_108 : decode cX0_writeStatement 108 = .ok (.getfield 123, 3) := by decide +kernel
theorem dX0_writeStatement_111 : decode cX0_writeStatement 111 = .ok (.iload_n 1, 1) := by decide +kernel
theorem dX0_writeStatement_112 : decode cX0_writeStatement 112 = .ok (.iaload, 1) := by decide +kernel
theorem dX0_writeStatement_113 : decode cX0_writeStatement 113 = .ok (.iload_n 1, 1) := by decide +kernel
theorem dX0_writeStatement_114 : decode cX0_writeStatement 114 = .ok (.invokevirtual 139, 3) := by decide +kernel
theorem dX0_writeStatement_117 : decode cX0_writeStatement 117 = .ok (.goto 50, 3) := by decide +kernel
theorem dX0_writeStatement_120 : decode cX0_writeStatement 120 = .ok (.aload_n 0, 1) := by decide +kernel
theorem dX0_writeStatement_121 : decode cX0_writeStatement 121 = .ok (.iload_n 1, 1) := by decide +kernel
theorem dX0_writeStatement_122 : decode cX0_writeStatement 122 = .ok (.invokevirtual 126, 3) := by decide +kernel
theorem dX0_writeStatement_125 : decode cX0_writeStatement 125 = .ok (.ifCond .ne 42, 3) := by decide +kernel
theorem dX0_writeStatement_128 : decode cX0_writeStatement 128 = .ok (.aload_n 0, 1) := by decide +kernel
theorem dX0_writeStatement_129 : decode cX0_writeStatement 129 = .ok (.iload_n 3, 1) := by decide +kernel
theorem dX0_writeStatement_130 : decode cX0_writeStatement 130 = .ok (.bipush 15, 2) := by decide +kernel
theorem dX0_writeStatement_132 : decode cX0_writeStatement 132 = .ok (.iconst 0, 1) := by decide +kernel
theorem dX0_writeStatement_133 : decode cX0_writeStatement 133 = .ok (.iconst 0, 1) := by decide +kernel
theorem dX0_writeStatement_134 : decode cX0_writeStatement 134 = .ok (.iload_n 1, 1) := by decide +kernel
theorem dX0_writeStatement_135 : decode cX0_writeStatement 135 = .ok (.invokevirtual 139, 3) := by decide +kernel
theorem dX0_writeStatement_138 : decode cX0_writeStatement 138 = .ok (.goto 29, 3) := by decide +kernel
theorem dX0_writeStatement_141 : decode cX0_writeStatement 141 = .ok (.aload_n 0, 1) := by decide +kernel
theorem dX0_writeStatement_142 : decode cX0_writeStatement 142 = .ok (.iload_n 3, 1) := by decide +kernel
theorem dX0_writeStatement_143 : decode cX0_writeStatement 143 = .ok (.bipush 26, 2) := by decide +kernel
theorem dX0_writeStatement_145 : decode cX0_writeStatement 145 = .ok (.iconst 0, 1) := by decide +kernel
theorem dX0_writeStatement_146 : decode cX0_writeStatement 146 = .ok (.iconst 0, 1) := by decide +kernel
theorem dX0_writeStatement_147 : decode cX0_writeStatement 147 = .ok (.iload_n 1, 1) := by decide +kernel
theorem dX0_writeStatement_148 : decode cX0_writeStatement 148 = .ok (.invokevirtual 139, 3) := by decide +kernel
theorem dX0_writeStatement_151 : decode cX0_writeStatement 151 = .ok (.goto 16, 3) := by decide +kernel
theorem dX0_writeStatement_154 : decode cX0_writeStatement 154 = .ok (.aload_n 0, 1) := by decide +kernel
theorem dX0_writeStatement_155 : decode cX0_writeStatement 155 = .ok (.iload_n 3, 1) := by decide +kernel
theorem dX0_writeStatement_156 : decode cX0_writeStatement 156 = .ok (.bipush 27, 2) := by decide +kernel
theorem dX0_writeStatement_158 : decode cX0_writeStatement 158 = .ok (.iconst 0, 1) := by decide +kernel
theorem dX0_writeStatement_159 : decode cX0_writeStatement 159 = .ok (.iconst 0, 1) := by decide +kernel
theorem dX0_writeStatement_160 : decode cX0_writeStatement 160 = .ok (.iload_n 1, 1) := by decide +kernel
theorem dX0_writeStatement_161 : decode cX0_writeStatement 161 = .ok (.invokevirtual 139, 3) := by decide +kernel
theorem dX0_writeStatement_164 : decode cX0_writeStatement 164 = .ok (.goto 3, 3) := by decide +kernel
theorem dX0_writeStatement_167 : decode cX0_writeStatement 167 = .ok (.return_, 1) := by decide +kernel
set_option maxRecDepth 20000 in
theorem ggX0_writeIf_X0_put : GoodIn wsX0_writeIf wsX0_put := goodIn_r _ [13, 14, 15, 16, 17, 18, 19, 20, 21, 22, 23, 24, 25, 26, 27, 28, 29, 30, 31, 32, 33, 34] (by decide +kernel) (by decide +kernel)
set_option maxRecDepth 20000 in
theorem gX0_writeIf_X0_put : GoodIn wsX0_writeIf (wsV RX0 139 RX0 yX0_put wsX0_put) := goodIn_app (goodIn_of _ (by decide +kernel)) ggX0_writeIf_X0_put
theorem dX0_writeIf_0 : decode cX0_writeIf 0 = .ok (.aload_n 0, 1) := by decide +kernel
theorem dX0_writeIf_1 : decode cX0_writeIf 1 = .ok (.getfield 18, 3) := by decide +kernel
theorem dX0_writeIf_4 : decode cX0_writeIf 4 = .ok (.aload_n 0, 1) := by decide +kernel
theorem dX0_writeIf_5 : decode cX0_writeIf 5 = .ok (.getfield 64, 3) := by decide +kernel
theorem dX0_writeIf_8 : decode cX0_writeIf 8 = .ok (.getfield 96, 3) := by decide +kernel
theorem dX0_writeIf_11 : decode cX0_writeIf 11 = .ok (.iload_n 1, 1) := by decide +kernel
theorem dX0_writeIf_12 : decode cX0_writeIf 12 = .ok (.iaload, 1) := by decide +kernel
theorem dX0_writeIf_13 : decode cX0_writeIf 13 = .ok (.iaload, 1) := by decide +kernel
theorem dX0_writeIf_14 : decode cX0_writeIf 14 = .ok (.istore_n 2, 1) := by decide +kernel
theorem dX0_writeIf_15 : decode cX0_writeIf 15 = .ok (.aload_n 0, 1) := by decide +kernel
theorem dX0_writeIf_16 : decode cX0_writeIf 16 = .ok (.getfield 43, 3) := by decide +kernel
theorem dX0_writeIf_19 : decode cX0_writeIf 19 = .ok (.aload_n 0, 1) := by decide +kernel
theorem dX0_writeIf_20 : decode cX0_writeIf 20 = .ok (.getfield 60, 3) := by decide +kernel
theorem dX0_writeIf_23 : decode cX0_writeIf 23 = .ok (.getfield 192, 3) := by decide +kernel
theorem dX0_writeIf_26 : decode cX0_writeIf 26 = .ok (.iload_n 1, 1) := by decide +kernel
theorem dX0_writeIf_27 : decode cX0_writeIf 27 = .ok (.iaload, 1) := by decide +kernel
theorem dX0_writeIf_28 : decode cX0_writeIf 28 = .ok (.iaload, 1) := by decide +kernel
theorem dX0_writeIf_29 : decode cX0_writeIf 29 = .ok (.aload_n 0, 1) := by decide +kernel
theorem dX0_writeIf_30 : decode cX0_writeIf 30 = .ok (.getfield 46, 3) := by decide +kernel
theorem dX0_writeIf_33 : decode cX0_writeIf 33 = .ok (.aload_n 0, 1) := by decide +kernel
theorem dX0_writeIf_34 : decode cX0_writeIf 34 = .ok (.getfield 60, 3) := by decide +kernel
theorem dX0_writeIf_37 : decode cX0_writeIf 37 = .ok (.getfield 192, 3) := by decide +kernel
theorem dX0_writeIf_40 : decode cX0_writeIf 40 = .ok (.iload_n 1, 1) := by decide +kernel
theorem dX0_writeIf_41 : decode cX0_writeIf 41 = .ok (.iaload, 1) := by decide +kernel
theorem dX0_writeIf_42 : decode cX0_writeIf 42 = .ok (.iaload, 1) := by decide +kernel
theorem dX0_writeIf_43 : decode cX0_writeIf 43 = .ok (.iadd, 1) := by decide +kernel
theorem dX0_writeIf_44 : decode cX0_writeIf 44 = .ok (.istore_n 3, 1) := by decide +kernel
theorem dX0_writeIf_45 : decode cX0_writeIf 45 = .ok (.aload_n 0, 1) := by decide +kernel
theorem dX0_writeIf_46 : decode cX0_writeIf 46 = .ok (.getfield 60, 3) := by decide +kernel
theorem dX0_writeIf_49 : decode cX0_writeIf 49 = .ok (.getfield 123, 3) := by decide +kernel
theorem dX0_writeIf_52 : decode cX0_writeIf 52 = .ok (.iload_n 1, 1) := by decide +kernel
theorem dX0_writeIf_53 : decode cX0_writeIf 53 = .ok (.iaload, 1) := by decide +kernel
theorem dX0_writeIf_54 : decode cX0_writeIf 54 = .ok (.iconst (-1), 1) := by decide +kernel
theorem dX0_writeIf_55 : decode cX0_writeIf 55 = .ok (.if_icmp .eq 7, 3) := by decide +kernel
theorem dX0_writeIf_58 : decode cX0_writeIf 58 = .ok (.iconst 1, 1) := by decide +kernel
theorem dX0_writeIf_59 : decode cX0_writeIf 59 = .ok (.goto 4, 3) := by decide +kernel
theorem dX0_writeIf_62 : decode cX0_writeIf 62 = .ok (.iconst 0, 1) := by decide +kernel
theorem dX0_writeIf_63 : decode cX0_writeIf 63 = .ok (.istore 4, 2) := by decide +kernel
theorem dX0_writeIf_65 : decode cX0_writeIf 65 = .ok (.aload_n 0, 1) := by decide +kernel
theorem dX0_writeIf_66 : decode cX0_writeIf 66 = .ok (.aload_n 0, 1) := by decide +kernel
theorem dX0_writeIf_67 : decode cX0_writeIf 67 = .ok (.getfield 43, 3) := by decide +kernel
theorem dX0_writeIf_70 : decode cX0_writeIf 70 = .ok (.aload_n 0, 1) := by decide +kernel
theorem dX0_writeIf_71 : decode cX0_writeIf 71 = .ok (.getfield 60, 3) := by decide +kernel
theorem dX0_writeIf_74 : decode cX0_writeIf 74 = .ok (.getfield 192, 3) := by decide +kernel
theorem dX0_writeIf_77 : decode cX0_writeIf 77 = .ok (.iload_n 1, 1) := by decide +kernel
theorem dX0_writeIf_78 : decode cX0_writeIf 78 = .ok (.iaload, 1) := by decide +kernel
theorem dX0_writeIf_79 : decode cX0_writeIf 79 = .ok (.iaload, 1) := by decide +kernel
theorem dX0_writeIf_80 : decode cX0_writeIf 80 = .ok (.iconst 1, 1) := by decide +kernel
theorem dX0_writeIf_81 : decode cX0_writeIf 81 = .ok (.isub, 1) := by decide +kernel
theorem dX0_writeIf_82 : decode cX0_writeIf 82 = .ok (.bipush 21, 2) := by decide +kernel
theorem dX0_writeIf_84 : decode cX0_writeIf 84 = .ok (.iload_n 3, 1) := by decide +kernel
theorem dX0_writeIf_85 : decode cX0_writeIf 85 = .ok (.iload 4, 2) := by decide +kernel
theorem dX0_writeIf_87 : decode cX0_writeIf 87 = .ok (.ifCond .eq 7, 3) := by decide +kernel
theorem dX0_writeIf_90 : decode cX0_writeIf 90 = .ok (.iconst 1, 1) := by decide +kernel
theorem dX0_writeIf_91 : decode cX0_writeIf 91 = .ok (.goto 4, 3) := by decide +kernel
theorem dX0_writeIf_94 : decode cX0_writeIf 94 = .ok (.iconst 0, 1) := by decide +kernel
theorem dX0_writeIf_95 : decode cX0_writeIf 95 = .ok (.iadd, 1) := by decide +kernel
theorem dX0_writeIf_96 : decode cX0_writeIf 96 = .ok (.iload_n 2, 1) := by decide +kernel
theorem dX0_writeIf_97 : decode cX0_writeIf 97 = .ok (.isub, 1) := by decide +kernel
theorem dX0_writeIf_98 : decode cX0_writeIf 98 = .ok (.iconst 0, 1) := by decide +kernel
theorem dX0_writeIf_99 : decode cX0_writeIf 99 = .ok (.iload_n 1, 1) := by decide +kernel
theorem dX0_writeIf_100 : decode cX0_writeIf 100 = .ok (.invokevirtual 139, 3) := by decide +kernel
theorem dX0_writeIf_103 : decode cX0_writeIf 103 = .ok (.iload 4, 2) := by decide +kernel
theorem dX0_writeIf_105 : decode cX0_writeIf 105 = .ok (.ifCond .eq 27, 3) := by decide +kernel
theorem dX0_writeIf_108 : decode cX0_writeIf 108 = .ok (.aload_n 0, 1) := by decide +kernel
theorem dX0_writeIf_109 : decode cX0_writeIf 109 = .ok (.iload_n 3, 1) := by decide +kernel
theorem dX0_writeIf_110 : decode cX0_writeIf 110 = .ok (.bipush 22, 2) := by decide +kernel
theorem dX0_writeIf_112 : decode cX0_writeIf 112 = .ok (.aload_n 0, 1) := by decide +kernel
theorem dX0_writeIf_113 : decode cX0_writeIf 113 = .ok (.getfield 43, 3) := by decide +kernel
theorem dX0_writeIf_116 : decode cX0_writeIf 116 = .ok (.iload_n 1, 1) := by decide +kernel
theorem dX0_writeIf_117 : decode cX0_writeIf 117 = .ok (.iaload, 1) := by decide +kernel
theorem dX0_writeIf_118 : decode cX0_writeIf 118 = .ok (.aload_n 0, 1) := by decide +kernel
theorem dX0_writeIf_119 : decode cX0_writeIf 119 = .ok (.getfield 46, 3) := by decide +kernel
theorem dX0_writeIf_122 : decode cX0_writeIf 122 = .ok (.iload_n 1, 1) := by decide +kernel
theorem dX0_writeIf_123 : decode cX0_writeIf 123 = .ok (.iaload, 1) := by decide +kernel
theorem dX0_writeIf_124 : decode cX0_writeIf 124 = .ok (.iadd, 1) := by decide +kernel
theorem dX0_writeIf_125 : decode cX0_writeIf 125 = .ok (.iload_n 2, 1) := by decide +kernel
theorem dX0_writeIf_126 : decode cX0_writeIf 126 = .ok (.isub, 1) := by decide +kernel
theorem dX0_writeIf_127 : decode cX0_writeIf 127 = .ok (.iconst 0, 1) := by decide +kernel
theorem dX0_writeIf_128 : decode cX0_writeIf 128 = .ok (.iload_n 1, 1) := by decide +kernel
theorem dX0_writeIf_129 : decode cX0_writeIf 129 = .ok (.invokevirtual 139, 3) := by decide +kernel
theorem dX0_writeIf_132 : decode cX0_writeIf 132 = .ok (.return_, 1) := by decide +kernel
set_option maxRecDepth 20000 in
theorem ggX0_writeLoop_X0_put : GoodIn wsX0_writeLoop wsX0_put := goodIn_r _ [13, 14, 15, 16, 17, 18, 19, 20, 21, 22, 23, 24, 25, 26, 27, 28, 29, 30, 31, 32, 33, 34] (by decide +kernel) (by decide +kernel)
set_option maxRecDepth 20000 in
theorem gX0_writeLoop_X0_put : GoodIn wsX0_writeLoop (wsV RX0 139 RX0 yX0_put wsX0_put) := goodIn_app (goodIn_of _ (by decide +kernel)) ggX0_writeLoop_X0_put
theorem dX0_writeLoop_0 : decode cX0_writeLoop 0 = .ok (.aload_n 0, 1) := by decide +kernel
theorem dX0_writeLoop_1 : decode cX0_writeLoop 1 = .ok (.getfield 18, 3) := by decide +kernel
theorem dX0_writeLoop_4 : decode cX0_writeLoop 4 = .ok (.aload_n 0, 1) := by decide +kernel
theorem dX0_writeLoop_5 : decode cX0_writeLoop 5 = .ok (.getfield 64, 3) := by decide +kernel
theorem dX0_writeLoop_8 : decode cX0_writeLoop 8 = .ok (.getfield 96, 3) := by decide +kernel
theorem dX0_writeLoop_11 : decode cX0_writeLoop 11 = .ok (.iload_n 1, 1) := by decide +kernel
theorem dX0_writeLoop_12 : decode cX0_writeLoop 12 = .ok (.iaload, 1) := by decide +kernel
theorem dX0_writeLoop_13 : decode cX0_writeLoop 13 = .ok (.iaload, 1) := by decide +kernel
theorem dX0_writeLoop_14 : decode cX0_writeLoop 14 = .ok (.istore_n 3, 1) := by decide +kernel
theorem dX0_writeLoop_15 : decode cX0_writeLoop 15 = .ok (.aload_n 0, 1) := by decide +kernel
theorem dX0_writeLoop_16 : decode cX0_writeLoop 16 = .ok (.aload_n 0, 1) := by decide +kernel
theorem dX0_writeLoop_17 : decode cX0_writeLoop 17 = .ok (.getfield 43, 3) := by decide +kernel
theorem dX0_writeLoop_20 : decode cX0_writeLoop 20 = .ok (.iload_n 1, 1) := by decide +kernel
theorem dX0_writeLoop_21 : decode cX0_writeLoop 21 = .ok (.iaload, 1) := by decide +kernel
theorem dX0_writeLoop_22 : decode cX0_writeLoop 22 = .ok (.bipush 23, 2) := by decide +kernel
theorem dX0_writeLoop_24 : decode cX0_writeLoop 24 = .ok (.aload_n 0, 1) := by decide +kernel
theorem dX0_writeLoop_25 : decode cX0_writeLoop 25 = .ok (.getfield 60, 3) := by decide +kernel
theorem dX0_writeLoop_28 : decode cX0_writeLoop 28 = .ok (.getfield 123, 3) := by decide +kernel
theorem dX0_writeLoop_31 : decode cX0_writeLoop 31 = .ok (.iload_n 1, 1) := by decide +kernel
theorem dX0_writeLoop_32 : decode cX0_writeLoop 32 = .ok (.iaload, 1) := by decide +kernel
theorem dX0_writeLoop_33 : decode cX0_writeLoop 33 = .ok (.iconst 0, 1) := by decide +kernel
theorem dX0_writeLoop_34 : decode cX0_writeLoop 34 = .ok (.iload_n 1, 1) := by decide +kernel
theorem dX0_writeLoop_35 : decode cX0_writeLoop 35 = .ok (.invokevirtual 139, 3) := by decide +kernel
theorem dX0_writeLoop_38 : decode cX0_writeLoop 38 = .ok (.aload_n 0, 1) := by decide +kernel
theorem dX0_writeLoop_39 : decode cX0_writeLoop 39 = .ok (.aload_n 0, 1) := by decide +kernel
theorem dX0_writeLoop_40 : decode cX0_writeLoop 40 = .ok (.getfield 43, 3) := by decide +kernel
theorem dX0_writeLoop_43 : decode cX0_writeLoop 43 = .ok (.aload_n 0, 1) := by decide +kernel
theorem dX0_writeLoop_44 : decode cX0_writeLoop 44 = .ok (.getfield 60, 3) := by decide +kernel
theorem dX0_writeLoop_47 : decode cX0_writeLoop 47 = .ok (.getfield 192, 3) := by decide +kernel
theorem dX0_writeLoop_50 : decode cX0_writeLoop 50 = .ok (.iload_n 1, 1) := by decide +kernel
theorem dX0_writeLoop_51 : decode cX0_writeLoop 51 = .ok (.iaload, 1) := by decide +kernel
theorem dX0_writeLoop_52 : decode cX0_writeLoop 52 = .ok (.iaload, 1) := by decide +kernel
theorem dX0_writeLoop_53 : decode cX0_writeLoop 53 = .ok (.iconst 1, 1) := by decide +kernel
theorem dX0_writeLoop_54 : decode cX0_writeLoop 54 = .ok (.isub, 1) := by decide +kernel
theorem dX0_writeLoop_55 : decode cX0_writeLoop 55 = .ok (.bipush 21, 2) := by decide +kernel
theorem dX0_writeLoop_57 : decode cX0_writeLoop 57 = .ok (.iload_n 2, 1) := by decide +kernel
theorem dX0_writeLoop_58 : decode cX0_writeLoop 58 = .ok (.iload_n 3, 1) := by decide +kernel
theorem dX0_writeLoop_59 : decode cX0_writeLoop 59 = .ok (.isub, 1) := by decide +kernel
theorem dX0_writeLoop_60 : decode cX0_writeLoop 60 = .ok (.iconst 0, 1) := by decide +kernel
theorem dX0_writeLoop_61 : decode cX0_writeLoop 61 = .ok (.iload_n 1, 1) := by decide +kernel
theorem dX0_writeLoop_62 : decode cX0_writeLoop 62 = .ok (.invokevirtual 139, 3) := by decide +kernel
theorem dX0_writeLoop_65 : decode cX0_writeLoop 65 = .ok (.aload_n 0, 1) := by decide +kernel
theorem dX0_writeLoop_66 : decode cX0_writeLoop 66 = .ok (.iload_n 2, 1) := by decide +kernel
theorem dX0_writeLoop_67 : decode cX0_writeLoop 67 = .ok (.iconst 1, 1) := by decide +kernel
theorem dX0_writeLoop_68 : decode cX0_writeLoop 68 = .ok (.isub, 1) := by decide +kernel
theorem dX0_writeLoop_69 : decode cX0_writeLoop 69 = .ok (.bipush 22, 2) := by decide +kernel
theorem dX0_writeLoop_71 : decode cX0_writeLoop 71 = .ok (.aload_n 0, 1) := by decide +kernel
theorem dX0_writeLoop_72 : decode cX0_writeLoop 72 = .ok (.getfield 43, 3) := by decide +kernel
theorem dX0_writeLoop_75 : decode cX0_writeLoop 75 = .ok (.aload_n 0, 1) := by decide +kernel
theorem dX0_writeLoop_76 : decode cX0_writeLoop 76 = .ok (.getfield 60, 3) := by decide +kernel
theorem dX0_writeLoop_79 : decode cX0_writeLoop 79 = .ok (.getfield 180, 3) := by decide +kernel
theorem dX0_writeLoop_82 : decode cX0_writeLoop 82 = .ok (.iload_n 1, 1) := by decide +kernel
theorem dX0_writeLoop_83 : decode cX0_writeLoop 83 = .ok (.iaload, 1) := by decide +kernel
theorem dX0_writeLoop_84 : decode cX0_writeLoop 84 = .ok (.iaload, 1) := by decide +kernel
theorem dX0_writeLoop_85 : decode cX0_writeLoop 85 = .ok (.iload_n 3, 1) := by decide +kernel
theorem dX0_writeLoop_86 : decode cX0_writeLoop 86 = .ok (.isub, 1) := by decide +kernel
theorem dX0_writeLoop_87 : decode cX0_writeLoop 87 = .ok (.iconst 0, 1) := by decide +kernel
theorem dX0_writeLoop_88 : decode cX0_writeLoop 88 = .ok (.iload_n 1, 1) := by decide +kernel
theorem dX0_writeLoop_89 : decode cX0_writeLoop 89 = .ok (.invokevirtual 139, 3) := by decide +kernel
theorem dX0_writeLoop_92 : decode cX0_writeLoop 92 = .ok (.aload_n 0, 1) := by decide +kernel
theorem dX0_writeLoop_93 : decode cX0_writeLoop 93 = .ok (.iload_n 2, 1) := by decide +kernel
theorem dX0_writeLoop_94 : decode cX0_writeLoop 94 = .ok (.bipush 24, 2) := by decide +kernel
theorem dX0_writeLoop_96 : decode cX0_writeLoop 96 = .ok (.iconst 0, 1) := by decide +kernel
theorem dX0_writeLoop_97 : decode cX0_writeLoop 97 = .ok (.iconst 0, 1) := by decide +kernel
theorem dX0_writeLoop_98 : decode cX0_writeLoop 98 = .ok (.iload_n 1, 1) := by decide +kernel
theorem dX0_writeLoop_99 : decode cX0_writeLoop 99 = .ok (.invokevirtual 139, 3) := by decide +kernel
theorem dX0_writeLoop_102 : decode cX0_writeLoop 102 = .ok (.return_, 1) := by decide +kernel
