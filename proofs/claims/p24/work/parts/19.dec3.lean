theorem dX0_writeIf_82 : decode cX0_writeIf 82 = .ok (.bipush 21, 2) := by decide +kernel
theorem dX0_writeIf_84 : decode cX0_writeIf 84 = .ok (.iload_n 3, 1) := by decide +kernel
theorem dX0_writeIf_85 : decode cX0_writeIf 85 = .ok (.iload 4, 2) := by decide +kernel
theorem dX0_writeIf_87 : decode cX0_writeIf 87 = .ok (.ifCond .eq 7, 3) := by decide +kernel
theorem dX0_writeIf_94 : decode cX0_writeIf 94 = .ok (.iconst 0, 1) := by decide +kernel
theorem dX0_writeIf_95 : decode cX0_writeIf 95 = .ok (.iadd, 1) := by decide +kernel
theorem dX0_writeIf_96 : decode cX0_writeIf 96 = .ok (.iload_n 2, 1) := by decide +kernel
theorem dX0_writeIf_97 : decode cX0_writeIf 97 = .ok (.isub, 1) := by decide +kernel
theorem dX0_writeIf_98 : decode cX0_writeIf 98 = .ok (.iconst 0, 1) := by decide +kernel
theorem dX0_writeIf_99 : decode cX0_writeIf 99 = .ok (.iload_n 1, 1) := by decide +kernel
theorem dX0_writeIf_100 : decode cX0_writeIf 100 = .ok (.invokevirtual 139, 3) := by decide +kernel
theorem dX0_writeIf_103 : decode cX0_writeIf 103 = .ok (.iload 4, 2) := by decide +kernel
theorem dX0_writeIf_105 : decode cX0_writeIf 105 = .ok (.ifCond .eq 27, 3) := by decide +kernel
theorem dX0_writeIf_132 : decode cX0_writeIf 132 = .ok (.return_, 1) := by decide +kernel
theorem dX0_writeIf_58 : decode cX0_writeIf 58 = .ok (.iconst 1, 1) := by decide +kernel
theorem dX0_writeIf_59 : decode cX0_writeIf 59 = .ok (.goto 4, 3) := by decide +kernel
theorem dX0_writeIf_90 : decode cX0_writeIf 90 = .ok (.iconst 1, 1) := by decide +kernel
theorem dX0_writeIf_91 : decode cX0_writeIf 91 = .ok (.goto 4, 3) := by decide +kernel
theorem dX0_writeIf_108 : decode cX0_writeIf 108 = .ok (.aload_n 0, 1) := by decide +kernel
theorem dX0_writeIf_109 : decode cX0_writeIf 109 = .ok (.iload_n 3, 1) := by decide +kernel
theorem dX0_writeIf_110 : decode cX0_writeIf 110 = .ok (.bipush 22, 2) := by decide +kernel
theorem dX0_writeIf_112 : decode cX0_writeIf 112 = .ok (.aload_n 0, 1) := by decide +kernel
theorem dX0_writeIf_113 : decode cX0_writeIf 113 = .ok (.getfield 43, 3) := by decide +kernel
theorem dX0_writeIf_116 : decode cX0_writeIf 116 = .ok (.iload_n 1, 1) := by decide +kernel
theorem dX0_writeIf_117 : decode cX0_writeIf 117 = .ok (.iaload, 1) := by decide +kernel
theorem dX0_writeIf_118 : decode cX0_writeIf 118 = .ok (.aload_n 0, 1) := by decide +kernel
theorem dX0_writeIf_119 : decode cX0_writeIf 119 = .ok (.getfield 46, 3) := by decide +kernel
theorem dX0_writeIf_122 : decode cX0_writeIf 122 = .ok (.iload_n 1, 1) := by decide +kernel
theorem dX0_writeIf_123 : decode cX0_writeIf 123 = .ok (.iaload, 1) := by decide +kernel
theorem dX0_writeIf_124 : decode cX0_writeIf 124 = .ok (.iadd, 1) := by decide +kernel
theorem dX0_writeIf_125 : decode cX0_writeIf 125 = .ok (.iload_n 2, 1) := by decide +kernel
theorem dX0_writeIf_126 : decode cX0_writeIf 126 = .ok (.isub, 1) := by decide +kernel
theorem dX0_writeIf_127 : decode cX0_writeIf 127 = .ok (.iconst 0, 1) := by decide +kernel
theorem dX0_writeIf_128 : decode cX0_writeIf 128 = .ok (.iload_n 1, 1) := by decide +kernel
theorem dX0_writeIf_129 : decode cX0_writeIf 129 = .ok (.invokevirtual 139, 3) := by decide +kernel
theorem dX0_writeLoop_0 : decode cX0_writeLoop 0 = .ok (.aload_n 0, 1) := by decide +kernel
theorem dX0_writeLoop_1 : decode cX0_writeLoop 1 = .ok (.getfield 18, 3) := by decide +kernel
theorem dX0_writeLoop_4 : decode cX0_writeLoop 4 = .ok (.aload_n 0, 1) := by decide +kernel
theorem dX0_writeLoop_5 : decode cX0_writeLoop 5 = .ok (.getfield 64, 3) := by decide +kernel
theorem dX0_writeLoop_8 : decode cX0_writeLoop 8 = .ok (.getfield 96, 3) := by decide +kernel
theorem dX0_writeLoop_11 : decode cX0_writeLoop 11 = .ok (.iload_n 1, 1) := by decide +kernel
theorem dX0_writeLoop_12 : decode cX0_writeLoop 12 = .ok (.iaload, 1) := by decide +kernel
theorem dX0_writeLoop_13 : decode cX0_writeLoop 13 = .ok (.iaload, 1) := by decide +kernel
theorem dX0_writeLoop_14 : decode cX0_writeLoop 14 = .ok (.istore_n 3, 1) := by decide +kernel
theorem dX0_writeLoop_15 : decode cX0_writeLoop 15 = .ok (.aload_n 0, 1) := by decide +kernel
theorem dX0_writeLoop_16 : decode cX0_writeLoop 16 = .ok (.aload_n 0, 1) := by decide +kernel
theorem dX0_writeLoop_17 : decode cX0_writeLoop 17 = .ok (.getfield 43, 3) := by decide +kernel
theorem dX0_writeLoop_20 : decode cX0_writeLoop 20 = .ok (.iload_n 1, 1) := by decide +kernel
theorem dX0_writeLoop_21 : decode cX0_writeLoop 21 = .ok (.iaload, 1) := by decide +kernel
theorem dX0_writeLoop_22 : decode cX0_writeLoop 22 = .ok (.bipush 23, 2) := by decide +kernel
theorem dX0_writeLoop_24 : decode cX0_writeLoop 24 = .ok (.aload_n 0, 1) := by decide +kernel
theorem dX0_writeLoop_25 : decode cX0_writeLoop 25 = .ok (.getfield 60, 3) := by decide +kernel
theorem dX0_writeLoop_28 : decode cX0_writeLoop 28 = .ok (.getfield 123, 3) := by decide +kernel
theorem dX0_writeLoop_31 : decode cX0_writeLoop 31 = .ok (.iload_n 1, 1) := by decide +kernel
theorem dX0_writeLoop_32 : decode cX0_writeLoop 32 = .ok (.iaload, 1) := by decide +kernel
theorem dX0_writeLoop_33 : decode cX0_writeLoop 33 = .ok (.iconst 0, 1) := by decide +kernel
theorem dX0_writeLoop_34 : decode cX0_writeLoop 34 = .ok (.iload_n 1, 1) := by decide +kernel
theorem dX0_writeLoop_35 : decode cX0_writeLoop 35 = .ok (.invokevirtual 139, 3) := by decide +kernel
theorem dX0_writeLoop_38 : decode cX0_writeLoop 38 = .ok (.aload_n 0, 1) := by decide +kernel
theorem dX0_writeLoop_39 : decode cX0_writeLoop 39 = .ok (.aload_n 0, 1) := by decide +kernel
theorem dX0_writeLoop_40 : decode cX0_writeLoop 40 = .ok (.getfield 43, 3) := by decide +kernel
theorem dX0_writeLoop_43 : decode cX0_writeLoop 43 = .ok (.aload_n 0, 1) := by decide +kernel
theorem dX0_writeLoop_44 : decode cX0_writeLoop 44 = .ok (.getfield 60, 3) := by decide +kernel
theorem dX0_writeLoop_47 : decode cX0_writeLoop 47 = .ok (.getfield 192, 3) := by decide +kernel
theorem dX0_writeLoop_50 : decode cX0_writeLoop 50 = .ok (.iload_n 1, 1) := by decide +kernel
theorem dX0_writeLoop_51 : decode cX0_writeLoop 51 = .ok (.iaload, 1) := by decide +kernel
theorem dX0_writeLoop_52 : decode cX0_writeLoop 52 = .ok (.iaload, 1) := by decide +kernel
theorem dX0_writeLoop_53 : decode cX0_writeLoop 53 = .ok (.iconst 1, 1) := by decide +kernel
theorem dX0_writeLoop_54 : decode cX0_writeLoop 54 = .ok (.isub, 1) := by decide +kernel
theorem dX0_writeLoop_55 : decode cX0_writeLoop 55 = .ok (.bipush 21, 2) := by decide +kernel
theorem dX0_writeLoop_57 : decode cX0_writeLoop 57 = .ok (.iload_n 2, 1) := by decide +kernel
theorem dX0_writeLoop_58 : decode cX0_writeLoop 58 = .ok (.iload_n 3, 1) := by decide +kernel
theorem dX0_writeLoop_59 : decode cX0_writeLoop 59 = .ok (.isub, 1) := by decide +kernel
theorem dX0_writeLoop_60 : decode cX0_writeLoop 60 = .ok (.iconst 0, 1) := by decide +kernel
theorem dX0_writeLoop_61 : decode cX0_writeLoop 61 = .ok (.iload_n 1, 1) := by decide +kernel
theorem dX0_writeLoop_62 : decode cX0_writeLoop 62 = .ok (.invokevirtual 139, 3) := by decide +kernel
theorem dX0_writeLoop_65 : decode cX0_writeLoop 65 = .ok (.aload_n 0, 1) := by decide +kernel
theorem dX0_writeLoop_66 : decode cX0_writeLoop 66 = .ok (.iload_n 2, 1) := by decide +kernel
theorem dX0_writeLoop_67 : decode cX0_writeLoop 67 = .ok (.iconst 1, 1) := by decide +kernel
theorem dX0_writeLoop_68 : decode cX0_writeLoop 68 = .ok (.isub, 1) := by decide +kernel
theorem dX0_writeLoop_69 : decode cX0_writeLoop 69 = .ok (.bipush 22, 2) := by decide +kernel
theorem dX0_writeLoop_71 : decode cX0_writeLoop 71 = .ok (.aload_n 0, 1) := by decide +kernel
theorem dX0_writeLoop_72 : decode cX0_writeLoop 72 = .ok (.getfield 43, 3) := by decide +kernel
theorem dX0_writeLoop_75 : decode cX0_writeLoop 75 = .ok (.aload_n 0, 1) := by decide +kernel
theorem dX0_writeLoop_76 : decode cX0_writeLoop 76 = .ok (.getfield 60, 3) := by decide +kernel
theorem dX0_writeLoop_79 : decode cX0_writeLoop 79 = .ok (.getfield 180, 3) := by decide +kernel
theorem dX0_writeLoop_82 : decode cX0_writeLoop 82 = .ok (.iload_n 1, 1) := by decide +kernel
theorem dX0_writeLoop_83 : decode cX0_writeLoop 83 = .ok (.iaload, 1) := by decide +kernel
theorem dX0_writeLoop_84 : decode cX0_writeLoop 84 = .ok (.iaload, 1) := by decide +kernel
theorem dX0_writeLoop_85 : decode cX0_writeLoop 85 = .ok (.iload_n 3, 1) := by decide +kernel
theorem dX0_writeLoop_86 : decode cX0_writeLoop 86 = .ok (.isub, 1) := by decide +kernel
theorem dX0_writeLoop_87 : decode cX0_writeLoop 87 = .ok (.iconst 0, 1) := by decide +kernel
theorem dX0_writeLoop_88 : decode cX0_writeLoop 88 = .ok (.iload_n 1, 1) := by decide +kernel
theorem dX0_writeLoop_89 : decode cX0_writeLoop 89 = .ok (.invokevirtual 139, 3) := by decide +kernel
theorem dX0_writeLoop_92 : decode cX0_writeLoop 92 = .ok (.aload_n 0, 1) := by decide +kernel
theorem dX0_writeLoop_93 : decode cX0_writeLoop 93 = .ok (.iload_n 2, 1) := by decide +kernel
theorem dX0_writeLoop_94 : decode cX0_writeLoop 94 = .ok (.bipush 24, 2) := by decide +kernel
theorem dX0_writeLoop_96 : decode cX0_writeLoop 96 = .ok (.iconst 0, 1) := by decide +kernel
theorem dX0_writeLoop_97 : decode cX0_writeLoop 97 = .ok (.iconst 0, 1) := by decide +kernel
theorem dX0_writeLoop_98 : decode cX0_writeLoop 98 = .ok (.iload_n 1, 1) := by decide +kernel
theorem dX0_writeLoop_99 : decode cX0_writeLoop 99 = .ok (.invokevirtual 139, 3) := by decide +kernel
theorem dX0_writeLoop_102 : decode cX0_writeLoop 102 = .ok (.return_, 1) := by decide +kernel
theorem dX0_writeStatement_0 : decode cX0_writeStatement 0 = .ok (.iload_n 2, 1) := by decide +kernel
theorem dX0_writeStatement_1 : decode cX0_writeStatement 1 = .ok (.tableswitch 166 13 21 #[51, 62, 73, 81, 90, 119, 140, 153, 51], 51) := by decide +kernel
theorem dX0_writeStatement_52 : decode cX0_writeStatement 52 = .ok (.aload_n 0, 1) := by decide +kernel
theorem dX0_writeStatement_53 : decode cX0_writeStatement 53 = .ok (.iload_n 3, 1) := by decide +kernel
theorem dX0_writeStatement_54 : decode cX0_writeStatement 54 = .ok (.bipush 19, 2) := by decide +kernel
theorem dX0_writeStatement_56 : decode cX0_writeStatement 56 = .ok (.iload_n 1, 1) := by decide +kernel
theorem dX0_writeStatement_57 : decode cX0_writeStatement 57 = .ok (.invokevirtual 174, 3) := by decide +kernel
theorem dX0_writeStatement_60 : decode cX0_writeStatement 60 = .ok (.goto 107, 3) := by decide +kernel
theorem dX0_writeStatement_167 : decode cX0_writeStatement 167 = .ok (.return_, 1) := by decide +kernel
theorem dX0_writeStatement_63 : decode cX0_writeStatement 63 = .ok (.aload_n 0, 1) := by decide +kernel
theorem dX0_writeStatement_64 : decode cX0_writeStatement 64 = .ok (.iload_n 3, 1) := by decide +kernel
theorem dX0_writeStatement_65 : decode cX0_writeStatement 65 = .ok (.bipush 20, 2) := by decide +kernel
theorem dX0_writeStatement_67 : decode cX0_writeStatement 67 = .ok (.iload_n 1, 1) := by decide +kernel
theorem dX0_writeStatement_68 : decode cX0_writeStatement 68 = .ok (.invokevirtual 174, 3) := by decide +kernel
theorem dX0_writeStatement_71 : decode cX0_writeStatement 71 = .ok (.goto 96, 3) := by decide +kernel
theorem dX0_writeStatement_74 : decode cX0_writeStatement 74 = .ok (.aload_n 0, 1) := by decide +kernel
theorem dX0_writeStatement_75 : decode cX0_writeStatement 75 = .ok (.iload_n 1, 1) := by decide +kernel
theorem dX0_writeStatement_76 : decode cX0_writeStatement 76 = .ok (.invokevirtual 183, 3) := by decide +kernel
theorem dX0_writeStatement_79 : decode cX0_writeStatement 79 = .ok (.goto 88, 3) := by decide +kernel
theorem dX0_writeStatement_82 : decode cX0_writeStatement 82 = .ok (.aload_n 0, 1) := by decide +kernel
theorem dX0_writeStatement_83 : decode cX0_writeStatement 83 = .ok (.iload_n 1, 1) := by decide +kernel
theorem dX0_writeStatement_84 : decode cX0_writeStatement 84 = .ok (.iload_n 3, 1) := by decide +kernel
theorem dX0_writeStatement_85 : decode cX0_writeStatement 85 = .ok (.invokevirtual 186, 3) := by decide +kernel
theorem dX0_writeStatement_88 : decode cX0_writeStatement 88 = .ok (.goto 79, 3) := by decide +kernel
theorem dX0_writeStatement_91 : decode cX0_writeStatement 91 = .ok (.aload_n 0, 1) := by decide +kernel
theorem dX0_writeStatement_92 : decode cX0_writeStatement 92 = .ok (.iload_n 3, 1) := by decide +kernel
theorem dX0_writeStatement_93 : decode cX0_writeStatement 93 = .ok (.bipush 25, 2) := by decide +kernel
theorem dX0_writeStatement_95 : decode cX0_writeStatement 95 = .ok (.aload_n 0, 1) := by decide +kernel
theorem dX0_writeStatement_96 : decode cX0_writeStatement 96 = .ok (.getfield 64, 3) := by decide +kernel
theorem dX0_writeStatement_99 : decode cX0_writeStatement 99 = .ok (.getfield 189, 3) := by decide +kernel
theorem dX0_writeStatement_102 : decode cX0_writeStatement 102 = .ok (.iload_n 1, 1) := by decide +kernel
theorem dX0_writeStatement_103 : decode cX0_writeStatement 103 = .ok (.iaload, 1) := by decide +kernel
theorem dX0_writeStatement_104 : decode cX0_writeStatement 104 = .ok (.aload_n 0, 1) := by decide +kernel
theorem dX0_writeStatement_105 : decode cX0_writeStatement 105 = .ok (.getfield 60, 3) := by decide +kernel
theorem dX0_writeStatement_108 : decode cX0_writeStatement 108 = .ok (.getfield 123, 3) := by decide +kernel
theorem dX0_writeStatement_111 : decode cX0_writeStatement 111 = .ok (.iload_n 1, 1) := by decide +kernel
theorem dX0_writeStatement_112 : decode cX0_writeStatement 112 = .ok (.iaload, 1) := by decide +kernel
theorem dX0_writeStatement_113 : decode cX0_writeStatement 113 = .ok (.iload_n 1, 1) := by decide +kernel
theorem dX0_writeStatement_114 : decode cX0_writeStatement 114 = .ok (.invokevirtual 139, 3) := by decide +kernel
theorem dX0_writeStatement_117 : decode cX0_writeStatement 117 = .ok (.goto 50, 3) := by decide +kernel
theorem dX0_writeStatement_120 : decode cX0_writeStatement 120 = .ok (.aload_n 0, 1) := by decide +kernel
theorem dX0_writeStatement_121 : decode cX0_writeStatement 121 = .ok (.iload_n 1, 1) := by decide +kernel
theorem dX0_writeStatement_122 : decode cX0_writeStatement 122 = .ok (.invokevirtual 126, 3) := by decide +kernel
theorem dX0_writeStatement_125 : decode cX0_writeStatement 125 = .ok (.ifCond .ne 42, 3) := by decide +kernel
theorem dX0_writeStatement_128 : decode cX0_writeStatement 128 = .ok (.aload_n 0, 1) := by decide +kernel
theorem dX0_writeStatement_129 : decode cX0_writeStatement 129 = .ok (.iload_n 3, 1) := by decide +kernel
theorem dX0_writeStatement_130 : decode cX0_writeStatement 130 = .ok (.bipush 15, 2) := by decide +kernel
theorem dX0_writeStatement_132 : decode cX0_writeStatement 132 = .ok (.iconst 0, 1) := by decide +kernel
theorem dX0_writeStatement_133 : decode cX0_writeStatement 133 = .ok (.iconst 0, 1) := by decide +kernel
theorem dX0_writeStatement_134 : decode cX0_writeStatement 134 = .ok (.iload_n 1, 1) := by decide +kernel
theorem dX0_writeStatement_135 : decode cX0_writeStatement 135 = .ok (.invokevirtual 139, 3) := by decide +kernel
theorem dX0_writeStatement_138 : decode cX0_writeStatement 138 = .ok (.goto 29, 3) := by decide +kernel
theorem dX0_writeStatement_141 : decode cX0_writeStatement 141 = .ok (.aload_n 0, 1) := by decide +kernel
theorem dX0_writeStatement_142 : decode cX0_writeStatement 142 = .ok (.iload_n 3, 1) := by decide +kernel
theorem dX0_writeStatement_143 : decode cX0_writeStatement 143 = .ok (.bipush 26, 2) := by decide +kernel
theorem dX0_writeStatement_145 : decode cX0_writeStatement 145 = .ok (.iconst 0, 1) := by decide +kernel
theorem dX0_writeStatement_146 : decode cX0_writeStatement 146 = .ok (.iconst 0, 1) := by decide +kernel
theorem dX0_writeStatement_147 : decode cX0_writeStatement 147 = .ok (.iload_n 1, 1) := by decide +kernel
theorem dX0_writeStatement_148 : decode cX0_writeStatement 148 = .ok (.invokevirtual 139, 3) := by decide +kernel
theorem dX0_writeStatement_151 : decode cX0_writeStatement 151 = .ok (.goto 16, 3) := by decide +kernel
theorem dX0_writeStatement_154 : decode cX0_writeStatement 154 = .ok (.aload_n 0, 1) := by decide +kernel
theorem dX0_writeStatement_155 : decode cX0_writeStatement 155 = .ok (.iload_n 3, 1) := by decide +kernel
theorem dX0_writeStatement_156 : decode cX0_writeStatement 156 = .ok (.bipush 27, 2) := by decide +kernel
theorem dX0_writeStatement_158 : decode cX0_writeStatement 158 = .ok (.iconst 0, 1) := by decide +kernel
theorem dX0_writeStatement_159 : decode cX0_writeStatement 159 = .ok (.iconst 0, 1) := by decide +kernel
theorem dX0_writeStatement_160 : decode cX0_writeStatement 160 = .ok (.iload_n 1, 1) := by decide +kernel
theorem dX0_writeStatement_161 : decode cX0_writeStatement 161 = .ok (.invokevirtual 139, 3) := by decide +kernel
theorem dX0_writeStatement_164 : decode cX0_writeStatement 164 = .ok (.goto 3, 3) := by decide +kernel
theorem dX4_modeOfPart_0 : decode cX4_modeOfPart 0 = .ok (.aload_n 0, 1) := by decide +kernel
theorem dX4_modeOfPart_1 : decode cX4_modeOfPart 1 = .ok (.getfield 69, 3) := by decide +kernel
theorem dX4_modeOfPart_4 : decode cX4_modeOfPart 4 = .ok (.getfield 117, 3) := by decide +kernel
theorem dX4_modeOfPart_7 : decode cX4_modeOfPart 7 = .ok (.iload_n 1, 1) := by decide +kernel
theorem dX4_modeOfPart_8 : decode cX4_modeOfPart 8 = .ok (.iaload, 1) := by decide +kernel
theorem dX4_modeOfPart_9 : decode cX4_modeOfPart 9 = .ok (.istore_n 2, 1) := by decide +kernel
theorem dX4_modeOfPart_10 : decode cX4_modeOfPart 10 = .ok (.iload_n 2, 1) := by decide +kernel
theorem dX4_modeOfPart_11 : decode cX4_modeOfPart 11 = .ok (.iconst (-1), 1) := by decide +kernel
theorem dX4_modeOfPart_12 : decode cX4_modeOfPart 12 = .ok (.if_icmp .eq 26, 3) := by decide +kernel
theorem dX4_modeOfPart_38 : decode cX4_modeOfPart 38 = .ok (.iconst 0, 1) := by decide +kernel
theorem dX4_modeOfPart_39 : decode cX4_modeOfPart 39 = .ok (.ireturn, 1) := by decide +kernel
theorem dX4_modeOfPart_15 : decode cX4_modeOfPart 15 = .ok (.aload_n 0, 1) := by decide +kernel
theorem dX4_modeOfPart_16 : decode cX4_modeOfPart 16 = .ok (.getfield 69, 3) := by decide +kernel
theorem dX4_modeOfPart_19 : decode cX4_modeOfPart 19 = .ok (.getfield 101, 3) := by decide +kernel
theorem dX4_modeOfPart_22 : decode cX4_modeOfPart 22 = .ok (.iload_n 2, 1) := by decide +kernel
theorem dX4_modeOfPart_23 : decode cX4_modeOfPart 23 = .ok (.iaload, 1) := by decide +kernel
theorem dX4_modeOfPart_24 : decode cX4_modeOfPart 24 = .ok (.bipush 9, 2) := by decide +kernel
theorem dX4_modeOfPart_26 : decode cX4_modeOfPart 26 = .ok (.if_icmp .ne 12, 3) := by decide +kernel
theorem dX4_modeOfPart_29 : decode cX4_modeOfPart 29 = .ok (.aload_n 0, 1) := by decide +kernel
theorem dX4_modeOfPart_30 : decode cX4_modeOfPart 30 = .ok (.getfield 37, 3) := by decide +kernel
theorem dX4_modeOfPart_33 : decode cX4_modeOfPart 33 = .ok (.iload_n 2, 1) := by decide +kernel
theorem dX4_modeOfPart_34 : decode cX4_modeOfPart 34 = .ok (.iaload, 1) := by decide +kernel
theorem dX4_modeOfPart_35 : decode cX4_modeOfPart 35 = .ok (.goto 4, 3) := by decide +kernel
theorem dX0_writeCall_0 : decode cX0_writeCall 0 = .ok (.aload_n 0, 1) := by decide +kernel
theorem dX0_writeCall_1 : decode cX0_writeCall 1 = .ok (.getfield 64, 3) := by decide +kernel
theorem dX0_writeCall_4 : decode cX0_writeCall 4 = .ok (.getfield 171, 3) := by decide +kernel
theorem dX0_writeCall_7 : decode cX0_writeCall 7 = .ok (.iload_n 1, 1) := by decide +kernel
theorem dX0_writeCall_8 : decode cX0_writeCall 8 = .ok (.iaload, 1) := by decide +kernel
theorem dX0_writeCall_9 : decode cX0_writeCall 9 = .ok (.bipush 10, 2) := by decide +kernel
theorem dX0_writeCall_11 : decode cX0_writeCall 11 = .ok (.if_icmp .ne 7, 3) := by decide +kernel
theorem dX0_writeCall_18 : decode cX0_writeCall 18 = .ok (.iconst 0, 1) := by decide +kernel
theorem dX0_writeCall_19 : decode cX0_writeCall 19 = .ok (.istore 4, 2) := by decide +kernel
theorem dX0_writeCall_21 : decode cX0_writeCall 21 = .ok (.iload_n 2, 1) := by decide +kernel
theorem dX0_writeCall_22 : decode cX0_writeCall 22 = .ok (.bipush 8, 2) := by decide +kernel
theorem dX0_writeCall_24 : decode cX0_writeCall 24 = .ok (.if_icmp .ne 50, 3) := by decide +kernel
theorem dX0_writeCall_74 : decode cX0_writeCall 74 = .ok (.iload_n 2, 1) := by decide +kernel
theorem dX0_writeCall_75 : decode cX0_writeCall 75 = .ok (.bipush 8, 2) := by decide +kernel
theorem dX0_writeCall_77 : decode cX0_writeCall 77 = .ok (.if_icmp .ne 14, 3) := by decide +kernel
theorem dX0_writeCall_91 : decode cX0_writeCall 91 = .ok (.iload_n 2, 1) := by decide +kernel
theorem dX0_writeCall_92 : decode cX0_writeCall 92 = .ok (.bipush 10, 2) := by decide +kernel
theorem dX0_writeCall_94 : decode cX0_writeCall 94 = .ok (.if_icmp .ne 23, 3) := by decide +kernel
theorem dX0_writeCall_117 : decode cX0_writeCall 117 = .ok (.iload_n 2, 1) := by decide +kernel
theorem dX0_writeCall_118 : decode cX0_writeCall 118 = .ok (.bipush 11, 2) := by decide +kernel
theorem dX0_writeCall_120 : decode cX0_writeCall 120 = .ok (.if_icmp .ne 31, 3) := by decide +kernel
theorem dX0_writeCall_151 : decode cX0_writeCall 151 = .ok (.aload_n 0, 1) := by decide +kernel
theorem dX0_writeCall_152 : decode cX0_writeCall 152 = .ok (.getfield 64, 3) := by decide +kernel
theorem dX0_writeCall_155 : decode cX0_writeCall 155 = .ok (.getfield 120, 3) := by decide +kernel
theorem dX0_writeCall_158 : decode cX0_writeCall 158 = .ok (.iload_n 1, 1) := by decide +kernel
theorem dX0_writeCall_159 : decode cX0_writeCall 159 = .ok (.iaload, 1) := by decide +kernel
theorem dX0_writeCall_160 : decode cX0_writeCall 160 = .ok (.iconst 2, 1) := by decide +kernel
theorem dX0_writeCall_161 : decode cX0_writeCall 161 = .ok (.if_icmp .ne 72, 3) := by decide +kernel
theorem dX0_writeCall_233 : decode cX0_writeCall 233 = .ok (.return_, 1) := by decide +kernel
theorem dX0_writeCall_164 : decode cX0_writeCall 164 = .ok (.aload_n 0, 1) := by decide +kernel
theorem dX0_writeCall_165 : decode cX0_writeCall 165 = .ok (.getfield 43, 3) := by decide +kernel
theorem dX0_writeCall_168 : decode cX0_writeCall 168 = .ok (.iload_n 1, 1) := by decide +kernel
theorem dX0_writeCall_169 : decode cX0_writeCall 169 = .ok (.iaload, 1) := by decide +kernel
theorem dX0_writeCall_170 : decode cX0_writeCall 170 = .ok (.iconst 1, 1) := by decide +kernel
theorem dX0_writeCall_171 : decode cX0_writeCall 171 = .ok (.iadd, 1) := by decide +kernel
theorem dX0_writeCall_172 : decode cX0_writeCall 172 = .ok (.aload_n 0, 1) := by decide +kernel
theorem dX0_writeCall_173 : decode cX0_writeCall 173 = .ok (.getfield 46, 3) := by decide +kernel
theorem dX0_writeCall_176 : decode cX0_writeCall 176 = .ok (.aload_n 0, 1) := by decide +kernel
theorem dX0_writeCall_177 : decode cX0_writeCall 177 = .ok (.getfield 60, 3) := by decide +kernel
theorem dX0_writeCall_180 : decode cX0_writeCall 180 = .ok (.getfield 180, 3) := by decide +kernel
theorem dX0_writeCall_183 : decode cX0_writeCall 183 = .ok (.iload_n 1, 1) := by decide +kernel
theorem dX0_writeCall_184 : decode cX0_writeCall 184 = .ok (.iaload, 1) := by decide +kernel
theorem dX0_writeCall_185 : decode cX0_writeCall 185 = .ok (.iaload, 1) := by decide +kernel
theorem dX0_writeCall_186 : decode cX0_writeCall 186 = .ok (.iadd, 1) := by decide +kernel
theorem dX0_writeCall_187 : decode cX0_writeCall 187 = .ok (.istore 5, 2) := by decide +kernel
theorem dX0_writeCall_189 : decode cX0_writeCall 189 = .ok (.aload_n 0, 1) := by decide +kernel
theorem dX0_writeCall_190 : decode cX0_writeCall 190 = .ok (.aload_n 0, 1) := by decide +kernel
theorem dX0_writeCall_191 : decode cX0_writeCall 191 = .ok (.getfield 43, 3) := by decide +kernel
theorem dX0_writeCall_194 : decode cX0_writeCall 194 = .ok (.iload_n 1, 1) := by decide +kernel
theorem dX0_writeCall_195 : decode cX0_writeCall 195 = .ok (.iaload, 1) := by decide +kernel
theorem dX0_writeCall_196 : decode cX0_writeCall 196 = .ok (.bipush 14, 2) := by decide +kernel
theorem dX0_writeCall_198 : decode cX0_writeCall 198 = .ok (.iload 5, 2) := by decide +kernel
theorem dX0_writeCall_200 : decode cX0_writeCall 200 = .ok (.iconst 1, 1) := by decide +kernel
theorem dX0_writeCall_201 : decode cX0_writeCall 201 = .ok (.iadd, 1) := by decide +kernel
theorem dX0_writeCall_202 : decode cX0_writeCall 202 = .ok (.aload_n 0, 1) := by decide +kernel
theorem dX0_writeCall_203 : decode cX0_writeCall 203 = .ok (.getfield 18, 3) := by decide +kernel
theorem dX0_writeCall_206 : decode cX0_writeCall 206 = .ok (.aload_n 0, 1) := by decide +kernel
theorem dX0_writeCall_207 : decode cX0_writeCall 207 = .ok (.getfield 64, 3) := by decide +kernel
theorem dX0_writeCall_210 : decode cX0_writeCall 210 = .ok (.getfield 96, 3) := by decide +kernel
theorem dX0_writeCall_213 : decode cX0_writeCall 213 = .ok (.iload_n 1, 1) := by decide +kernel
theorem dX0_writeCall_214 : decode cX0_writeCall 214 = .ok (.iaload, 1) := by decide +kernel
theorem dX0_writeCall_215 : decode cX0_writeCall 215 = .ok (.iaload, 1) := by decide +kernel
theorem dX0_writeCall_216 : decode cX0_writeCall 216 = .ok (.isub, 1) := by decide +kernel
theorem dX0_writeCall_217 : decode cX0_writeCall 217 = .ok (.iconst 0, 1) := by decide +kernel
theorem dX0_writeCall_218 : decode cX0_writeCall 218 = .ok (.iload_n 1, 1) := by decide +kernel
theorem dX0_writeCall_219 : decode cX0_writeCall 219 = .ok (.invokevirtual 139, 3) := by decide +kernel
theorem dX0_writeCall_222 : decode cX0_writeCall 222 = .ok (.aload_n 0, 1) := by decide +kernel
theorem dX0_writeCall_223 : decode cX0_writeCall 223 = .ok (.iload 5, 2) := by decide +kernel
theorem dX0_writeCall_225 : decode cX0_writeCall 225 = .ok (.bipush 15, 2) := by decide +kernel
theorem dX0_writeCall_227 : decode cX0_writeCall 227 = .ok (.iconst 0, 1) := by decide +kernel
theorem dX0_writeCall_228 : decode cX0_writeCall 228 = .ok (.iconst 0, 1) := by decide +kernel
theorem dX0_writeCall_229 : decode cX0_writeCall 229 = .ok (.iload_n 1, 1) := by decide +kernel
theorem dX0_writeCall_230 : decode cX0_writeCall 230 = .ok (.invokevirtual 139, 3) := by decide +kernel
theorem dX0_writeCall_123 : decode cX0_writeCall 123 = .ok (.aload_n 0, 1) := by decide +kernel
theorem dX0_writeCall_124 : decode cX0_writeCall 124 = .ok (.iload_n 3, 1) := by decide +kernel
theorem dX0_writeCall_125 : decode cX0_writeCall 125 = .ok (.aload_n 0, 1) := by decide +kernel
theorem dX0_writeCall_126 : decode cX0_writeCall 126 = .ok (.getfield 64, 3) := by decide +kernel
theorem dX0_writeCall_129 : decode cX0_writeCall 129 = .ok (.iload_n 1, 1) := by decide +kernel
theorem dX0_writeCall_130 : decode cX0_writeCall 130 = .ok (.invokevirtual 168, 3) := by decide +kernel
theorem dX0_writeCall_133 : decode cX0_writeCall 133 = .ok (.iconst 3, 1) := by decide +kernel
theorem dX0_writeCall_134 : decode cX0_writeCall 134 = .ok (.if_icmp .ne 8, 3) := by decide +kernel
theorem dX0_writeCall_142 : decode cX0_writeCall 142 = .ok (.bipush 17, 2) := by decide +kernel
theorem dX0_writeCall_144 : decode cX0_writeCall 144 = .ok (.iload_n 1, 1) := by decide +kernel
theorem dX0_writeCall_145 : decode cX0_writeCall 145 = .ok (.invokevirtual 174, 3) := by decide +kernel
theorem dX0_writeCall_148 : decode cX0_writeCall 148 = .ok (.goto 85, 3) := by decide +kernel
theorem dX0_writeCall_137 : decode cX0_writeCall 137 = .ok (.bipush 16, 2) := by decide +kernel
theorem dX0_writeCall_139 : decode cX0_writeCall 139 = .ok (.goto 5, 3) := by decide +kernel
theorem dX0_writeCall_97 : decode cX0_writeCall 97 = .ok (.aload_n 0, 1) := by decide +kernel
theorem dX0_writeCall_98 : decode cX0_writeCall 98 = .ok (.iload_n 3, 1) := by decide +kernel
theorem dX0_writeCall_99 : decode cX0_writeCall 99 = .ok (.iload 4, 2) := by decide +kernel
theorem dX0_writeCall_101 : decode cX0_writeCall 101 = .ok (.ifCond .eq 8, 3) := by decide +kernel
theorem dX0_writeCall_109 : decode cX0_writeCall 109 = .ok (.iconst 2, 1) := by decide +kernel
theorem dX0_writeCall_110 : decode cX0_writeCall 110 = .ok (.iload_n 1, 1) := by decide +kernel
theorem dX0_writeCall_111 : decode cX0_writeCall 111 = .ok (.invokevirtual 174, 3) := by decide +kernel
theorem dX0_writeCall_114 : decode cX0_writeCall 114 = .ok (.goto 119, 3) := by decide +kernel
theorem dX0_writeCall_80 : decode cX0_writeCall 80 = .ok (.aload_n 0, 1) := by decide +kernel
theorem dX0_writeCall_81 : decode cX0_writeCall 81 = .ok (.iload_n 3, 1) := by decide +kernel
theorem dX0_writeCall_82 : decode cX0_writeCall 82 = .ok (.bipush 10, 2) := by decide +kernel
theorem dX0_writeCall_84 : decode cX0_writeCall 84 = .ok (.iload_n 1, 1) := by decide +kernel
theorem dX0_writeCall_85 : decode cX0_writeCall 85 = .ok (.invokevirtual 174, 3) := by decide +kernel
theorem dX0_writeCall_88 : decode cX0_writeCall 88 = .ok (.goto 145, 3) := by decide +kernel
theorem dX0_writeCall_27 : decode cX0_writeCall 27 = .ok (.iload 4, 2) := by decide +kernel
theorem dX0_writeCall_29 : decode cX0_writeCall 29 = .ok (.ifCond .eq 45, 3) := by decide +kernel
theorem dX0_writeCall_14 : decode cX0_writeCall 14 = .ok (.iconst 1, 1) := by decide +kernel
theorem dX0_writeCall_15 : decode cX0_writeCall 15 = .ok (.goto 4, 3) := by decide +kernel
theorem dX0_writeCall_104 : decode cX0_writeCall 104 = .ok (.bipush 18, 2) := by decide +kernel
theorem dX0_writeCall_106 : decode cX0_writeCall 106 = .ok (.goto 4, 3) := by decide +kernel
theorem dX0_writeCall_32 : decode cX0_writeCall 32 = .ok (.aload_n 0, 1) := by decide +kernel
theorem dX0_writeCall_33 : decode cX0_writeCall 33 = .ok (.getfield 60, 3) := by decide +kernel
theorem dX0_writeCall_36 : decode cX0_writeCall 36 = .ok (.getfield 177, 3) := by decide +kernel
theorem dX0_writeCall_39 : decode cX0_writeCall 39 = .ok (.iload_n 1, 1) := by decide +kernel
theorem dX0_writeCall_40 : decode cX0_writeCall 40 = .ok (.iaload, 1) := by decide +kernel
theorem dX0_writeCall_41 : decode cX0_writeCall 41 = .ok (.istore 5, 2) := by decide +kernel
theorem dX0_writeCall_43 : decode cX0_writeCall 43 = .ok (.aload_n 0, 1) := by decide +kernel
theorem dX0_writeCall_44 : decode cX0_writeCall 44 = .ok (.iload_n 3, 1) := by decide +kernel
theorem dX0_writeCall_45 : decode cX0_writeCall 45 = .ok (.iload 5, 2) := by decide +kernel
theorem dX0_writeCall_47 : decode cX0_writeCall 47 = .ok (.iconst (-1), 1) := by decide +kernel
theorem dX0_writeCall_48 : decode cX0_writeCall 48 = .ok (.if_icmp .eq 17, 3) := by decide +kernel
theorem dX0_writeCall_65 : decode cX0_writeCall 65 = .ok (.bipush 9, 2) := by decide +kernel
theorem dX0_writeCall_67 : decode cX0_writeCall 67 = .ok (.iload_n 1, 1) := by decide +kernel
theorem dX0_writeCall_68 : decode cX0_writeCall 68 = .ok (.invokevirtual 174, 3) := by decide +kernel
theorem dX0_writeCall_71 : decode cX0_writeCall 71 = .ok (.goto 162, 3) := by decide +kernel
theorem dX0_writeCall_51 : decode cX0_writeCall 51 = .ok (.aload_n 0, 1) := by decide +kernel
theorem dX0_writeCall_52 : decode cX0_writeCall 52 = .ok (.iload 5, 2) := by decide +kernel
theorem dX0_writeCall_54 : decode cX0_writeCall 54 = .ok (.invokevirtual 126, 3) := by decide +kernel
theorem dX0_writeCall_57 : decode cX0_writeCall 57 = .ok (.ifCond .eq 8, 3) := by decide +kernel
theorem dX0_writeCall_60 : decode cX0_writeCall 60 = .ok (.bipush 11, 2) := by decide +kernel
theorem dX0_writeCall_62 : decode cX0_writeCall 62 = .ok (.goto 5, 3) := by decide +kernel
theorem dX0_writeExpression_0 : decode cX0_writeExpression 0 = .ok (.aload_n 0, 1) := by decide +kernel
theorem dX0_writeExpression_1 : decode cX0_writeExpression 1 = .ok (.getfield 64, 3) := by decide +kernel
theorem dX0_writeExpression_4 : decode cX0_writeExpression 4 = .ok (.iload_n 1, 1) := by decide +kernel
theorem dX0_writeExpression_5 : decode cX0_writeExpression 5 = .ok (.invokevirtual 168, 3) := by decide +kernel
theorem dX0_writeExpression_8 : decode cX0_writeExpression 8 = .ok (.iconst 1, 1) := by decide +kernel
theorem dX0_writeExpression_9 : decode cX0_writeExpression 9 = .ok (.if_icmp .ne 7, 3) := by decide +kernel
theorem dX0_writeExpression_16 : decode cX0_writeExpression 16 = .ok (.iconst 0, 1) := by decide +kernel
theorem dX0_writeExpression_17 : decode cX0_writeExpression 17 = .ok (.istore 4, 2) := by decide +kernel
theorem dX0_writeExpression_19 : decode cX0_writeExpression 19 = .ok (.iload_n 2, 1) := by decide +kernel
theorem dX0_writeExpression_20 : decode cX0_writeExpression 20 = .ok (.ifCond .ne 23, 3) := by decide +kernel
theorem dX0_writeExpression_43 : decode cX0_writeExpression 43 = .ok (.iload_n 2, 1) := by decide +kernel
theorem dX0_writeExpression_44 : decode cX0_writeExpression 44 = .ok (.iconst 1, 1) := by decide +kernel
theorem dX0_writeExpression_45 : decode cX0_writeExpression 45 = .ok (.if_icmp .ne 37, 3) := by decide +kernel
theorem dX0_writeExpression_82 : decode cX0_writeExpression 82 = .ok (.iload_n 2, 1) := by decide +kernel
theorem dX0_writeExpression_83 : decode cX0_writeExpression 83 = .ok (.iconst 1, 1) := by decide +kernel
theorem dX0_writeExpression_84 : decode cX0_writeExpression 84 = .ok (.if_icmp .ne 23, 3) := by decide +kernel
theorem dX0_writeExpression_107 : decode cX0_writeExpression 107 = .ok (.iload_n 2, 1) := by decide +kernel
theorem dX0_writeExpression_108 : decode cX0_writeExpression 108 = .ok (.iconst 2, 1) := by decide +kernel
theorem dX0_writeExpression_109 : decode cX0_writeExpression 109 = .ok (.if_icmp .ne 23, 3) := by decide +kernel
theorem dX0_writeExpression_132 : decode cX0_writeExpression 132 = .ok (.aload_n 0, 1) := by decide +kernel
theorem dX0_writeExpression_133 : decode cX0_writeExpression 133 = .ok (.iload_n 3, 1) := by decide +kernel
theorem dX0_writeExpression_134 : decode cX0_writeExpression 134 = .ok (.iload_n 2, 1) := by decide +kernel
theorem dX0_writeExpression_135 : decode cX0_writeExpression 135 = .ok (.iconst 1, 1) := by decide +kernel
theorem dX0_writeExpression_136 : decode cX0_writeExpression 136 = .ok (.iadd, 1) := by decide +kernel
theorem dX0_writeExpression_137 : decode cX0_writeExpression 137 = .ok (.iconst 0, 1) := by decide +kernel
theorem dX0_writeExpression_138 : decode cX0_writeExpression 138 = .ok (.iconst 0, 1) := by decide +kernel
theorem dX0_writeExpression_139 : decode cX0_writeExpression 139 = .ok (.iload_n 1, 1) := by decide +kernel
theorem dX0_writeExpression_140 : decode cX0_writeExpression 140 = .ok (.invokevirtual 139, 3) := by decide +kernel
theorem dX0_writeExpression_143 : decode cX0_writeExpression 143 = .ok (.return_, 1) := by decide +kernel
theorem dX0_writeExpression_112 : decode cX0_writeExpression 112 = .ok (.aload_n 0, 1) := by decide +kernel
theorem dX0_writeExpression_113 : decode cX0_writeExpression 113 = .ok (.iload_n 3, 1) := by decide +kernel
theorem dX0_writeExpression_114 : decode cX0_writeExpression 114 = .ok (.iload 4, 2) := by decide +kernel
theorem dX0_writeExpression_116 : decode cX0_writeExpression 116 = .ok (.ifCond .eq 8, 3) := by decide +kernel
theorem dX0_writeExpression_124 : decode cX0_writeExpression 124 = .ok (.iconst 3, 1) := by decide +kernel
theorem dX0_writeExpression_125 : decode cX0_writeExpression 125 = .ok (.iload_n 1, 1) := by decide +kernel
theorem dX0_writeExpression_126 : decode cX0_writeExpression 126 = .ok (.invokevirtual 174, 3) := by decide +kernel
theorem dX0_writeExpression_129 : decode cX0_writeExpression 129 = .ok (.goto 14, 3) := by decide +kernel
theorem dX0_writeExpression_87 : decode cX0_writeExpression 87 = .ok (.aload_n 0, 1) := by decide +kernel
theorem dX0_writeExpression_88 : decode cX0_writeExpression 88 = .ok (.iload_n 3, 1) := by decide +kernel
theorem dX0_writeExpression_89 : decode cX0_writeExpression 89 = .ok (.iload 4, 2) := by decide +kernel
theorem dX0_writeExpression_91 : decode cX0_writeExpression 91 = .ok (.ifCond .eq 8, 3) := by decide +kernel
theorem dX0_writeExpression_99 : decode cX0_writeExpression 99 = .ok (.iconst 2, 1) := by decide +kernel
theorem dX0_writeExpression_100 : decode cX0_writeExpression 100 = .ok (.iload_n 1, 1) := by decide +kernel
theorem dX0_writeExpression_101 : decode cX0_writeExpression 101 = .ok (.invokevirtual 174, 3) := by decide +kernel
theorem dX0_writeExpression_104 : decode cX0_writeExpression 104 = .ok (.goto 39, 3) := by decide +kernel
theorem dX0_writeExpression_48 : decode cX0_writeExpression 48 = .ok (.aload_n 0, 1) := by decide +kernel
theorem dX0_writeExpression_49 : decode cX0_writeExpression 49 = .ok (.getfield 64, 3) := by decide +kernel
theorem dX0_writeExpression_52 : decode cX0_writeExpression 52 = .ok (.getfield 171, 3) := by decide +kernel
theorem dX0_writeExpression_55 : decode cX0_writeExpression 55 = .ok (.iload_n 1, 1) := by decide +kernel
theorem dX0_writeExpression_56 : decode cX0_writeExpression 56 = .ok (.iaload, 1) := by decide +kernel
theorem dX0_writeExpression_57 : decode cX0_writeExpression 57 = .ok (.bipush 9, 2) := by decide +kernel
theorem dX0_writeExpression_59 : decode cX0_writeExpression 59 = .ok (.if_icmp .ne 23, 3) := by decide +kernel
theorem dX0_writeExpression_62 : decode cX0_writeExpression 62 = .ok (.aload_n 0, 1) := by decide +kernel
theorem dX0_writeExpression_63 : decode cX0_writeExpression 63 = .ok (.iload_n 3, 1) := by decide +kernel
theorem dX0_writeExpression_64 : decode cX0_writeExpression 64 = .ok (.iconst 1, 1) := by decide +kernel
theorem dX0_writeExpression_65 : decode cX0_writeExpression 65 = .ok (.aload_n 0, 1) := by decide +kernel
theorem dX0_writeExpression_66 : decode cX0_writeExpression 66 = .ok (.getfield 64, 3) := by decide +kernel
theorem dX0_writeExpression_69 : decode cX0_writeExpression 69 = .ok (.getfield 152, 3) := by decide +kernel
theorem dX0_writeExpression_72 : decode cX0_writeExpression 72 = .ok (.iload_n 1, 1) := by decide +kernel
theorem dX0_writeExpression_73 : decode cX0_writeExpression 73 = .ok (.iaload, 1) := by decide +kernel
theorem dX0_writeExpression_74 : decode cX0_writeExpression 74 = .ok (.iconst 0, 1) := by decide +kernel
theorem dX0_writeExpression_75 : decode cX0_writeExpression 75 = .ok (.iload_n 1, 1) := by decide +kernel
theorem dX0_writeExpression_76 : decode cX0_writeExpression 76 = .ok (.invokevirtual 139, 3) := by decide +kernel
theorem dX0_writeExpression_79 : decode cX0_writeExpression 79 = .ok (.goto 64, 3) := by decide +kernel
theorem dX0_writeExpression_23 : decode cX0_writeExpression 23 = .ok (.aload_n 0, 1) := by decide +kernel
theorem dX0_writeExpression_24 : decode cX0_writeExpression 24 = .ok (.iload_n 3, 1) := by decide +kernel
theorem dX0_writeExpression_25 : decode cX0_writeExpression 25 = .ok (.iconst 1, 1) := by decide +kernel
theorem dX0_writeExpression_26 : decode cX0_writeExpression 26 = .ok (.aload_n 0, 1) := by decide +kernel
theorem dX0_writeExpression_27 : decode cX0_writeExpression 27 = .ok (.getfield 60, 3) := by decide +kernel
theorem dX0_writeExpression_30 : decode cX0_writeExpression 30 = .ok (.getfield 123, 3) := by decide +kernel
theorem dX0_writeExpression_33 : decode cX0_writeExpression 33 = .ok (.iload_n 1, 1) := by decide +kernel
theorem dX0_writeExpression_34 : decode cX0_writeExpression 34 = .ok (.iaload, 1) := by decide +kernel
theorem dX0_writeExpression_35 : decode cX0_writeExpression 35 = .ok (.iconst 0, 1) := by decide +kernel
theorem dX0_writeExpression_36 : decode cX0_writeExpression 36 = .ok (.iload_n 1, 1) := by decide +kernel
theorem dX0_writeExpression_37 : decode cX0_writeExpression 37 = .ok (.invokevirtual 139, 3) := by decide +kernel
theorem dX0_writeExpression_40 : decode cX0_writeExpression 40 = .ok (.goto 103, 3) := by decide +kernel
theorem dX0_writeExpression_12 : decode cX0_writeExpression 12 = .ok (.iconst 1, 1) := by decide +kernel
theorem dX0_writeExpression_13 : decode cX0_writeExpression 13 = .ok (.goto 4, 3) := by decide +kernel
theorem dX0_writeExpression_119 : decode cX0_writeExpression 119 = .ok (.bipush 13, 2) := by decide +kernel
theorem dX0_writeExpression_121 : decode cX0_writeExpression 121 = .ok (.goto 4, 3) := by decide +kernel
theorem dX0_writeExpression_94 : decode cX0_writeExpression 94 = .ok (.bipush 12, 2) := by decide +kernel
theorem dX0_writeExpression_96 : decode cX0_writeExpression 96 = .ok (.goto 4, 3) := by decide +kernel
theorem dX0_write_0 : decode cX0_write 0 = .ok (.aload_n 0, 1) := by decide +kernel
theorem dX0_write_1 : decode cX0_write 1 = .ok (.getfield 43, 3) := by decide +kernel
theorem dX0_write_4 : decode cX0_write 4 = .ok (.iload_n 1, 1) := by decide +kernel
theorem dX0_write_5 : decode cX0_write 5 = .ok (.iaload, 1) := by decide +kernel
theorem dX0_write_6 : decode cX0_write 6 = .ok (.aload_n 0, 1) := by decide +kernel
theorem dX0_write_7 : decode cX0_write 7 = .ok (.getfield 46, 3) := by decide +kernel
theorem dX0_write_10 : decode cX0_write 10 = .ok (.iload_n 1, 1) := by decide +kernel
theorem dX0_write_11 : decode cX0_write 11 = .ok (.iaload, 1) := by decide +kernel
theorem dX0_write_12 : decode cX0_write 12 = .ok (.iadd, 1) := by decide +kernel
theorem dX0_write_13 : decode cX0_write 13 = .ok (.iconst 1, 1) := by decide +kernel
theorem dX0_write_14 : decode cX0_write 14 = .ok (.isub, 1) := by decide +kernel
theorem dX0_write_15 : decode cX0_write 15 = .ok (.istore_n 2, 1) := by decide +kernel
theorem dX0_write_16 : decode cX0_write 16 = .ok (.aload_n 0, 1) := by decide +kernel
theorem dX0_write_17 : decode cX0_write 17 = .ok (.getfield 52, 3) := by decide +kernel
theorem dX0_write_20 : decode cX0_write 20 = .ok (.iload_n 1, 1) := by decide +kernel
theorem dX0_write_21 : decode cX0_write 21 = .ok (.baload, 1) := by decide +kernel
theorem dX0_write_22 : decode cX0_write 22 = .ok (.ifCond .eq 4, 3) := by decide +kernel
theorem dX0_write_26 : decode cX0_write 26 = .ok (.aload_n 0, 1) := by decide +kernel
theorem dX0_write_27 : decode cX0_write 27 = .ok (.iload_n 1, 1) := by decide +kernel
theorem dX0_write_28 : decode cX0_write 28 = .ok (.invokevirtual 73, 3) := by decide +kernel
theorem dX0_write_31 : decode cX0_write 31 = .ok (.ifCond .eq 21, 3) := by decide +kernel
theorem dX0_write_52 : decode cX0_write 52 = .ok (.aload_n 0, 1) := by decide +kernel
theorem dX0_write_53 : decode cX0_write 53 = .ok (.getfield 60, 3) := by decide +kernel
theorem dX0_write_56 : decode cX0_write 56 = .ok (.getfield 117, 3) := by decide +kernel
theorem dX0_write_59 : decode cX0_write 59 = .ok (.iload_n 1, 1) := by decide +kernel
theorem dX0_write_60 : decode cX0_write 60 = .ok (.iaload, 1) := by decide +kernel
theorem dX0_write_61 : decode cX0_write 61 = .ok (.istore_n 3, 1) := by decide +kernel
theorem dX0_write_62 : decode cX0_write 62 = .ok (.iload_n 3, 1) := by decide +kernel
theorem dX0_write_63 : decode cX0_write 63 = .ok (.bipush 7, 2) := by decide +kernel
theorem dX0_write_65 : decode cX0_write 65 = .ok (.if_icmp .gt 13, 3) := by decide +kernel
theorem dX0_write_78 : decode cX0_write 78 = .ok (.iload_n 3, 1) := by decide +kernel
theorem dX0_write_79 : decode cX0_write 79 = .ok (.bipush 11, 2) := by decide +kernel
theorem dX0_write_81 : decode cX0_write 81 = .ok (.if_icmp .gt 13, 3) := by decide +kernel
theorem dX0_write_94 : decode cX0_write 94 = .ok (.aload_n 0, 1) := by decide +kernel
theorem dX0_write_95 : decode cX0_write 95 = .ok (.iload_n 1, 1) := by decide +kernel
theorem dX0_write_96 : decode cX0_write 96 = .ok (.iload_n 3, 1) := by decide +kernel
theorem dX0_write_97 : decode cX0_write 97 = .ok (.iload_n 2, 1) := by decide +kernel
theorem dX0_write_98 : decode cX0_write 98 = .ok (.invokevirtual 165, 3) := by decide +kernel
theorem dX0_write_101 : decode cX0_write 101 = .ok (.return_, 1) := by decide +kernel
theorem dX0_write_84 : decode cX0_write 84 = .ok (.aload_n 0, 1) := by decide +kernel
theorem dX0_write_85 : decode cX0_write 85 = .ok (.iload_n 1, 1) := by decide +kernel
theorem dX0_write_86 : decode cX0_write 86 = .ok (.iload_n 3, 1) := by decide +kernel
theorem dX0_write_87 : decode cX0_write 87 = .ok (.iload_n 2, 1) := by decide +kernel
theorem dX0_write_88 : decode cX0_write 88 = .ok (.invokevirtual 162, 3) := by decide +kernel
theorem dX0_write_91 : decode cX0_write 91 = .ok (.goto 10, 3) := by decide +kernel
theorem dX0_write_68 : decode cX0_write 68 = .ok (.aload_n 0, 1) := by decide +kernel
theorem dX0_write_69 : decode cX0_write 69 = .ok (.iload_n 1, 1) := by decide +kernel
theorem dX0_write_70 : decode cX0_write 70 = .ok (.iload_n 3, 1) := by decide +kernel
theorem dX0_write_71 : decode cX0_write 71 = .ok (.iload_n 2, 1) := by decide +kernel
theorem dX0_write_72 : decode cX0_write 72 = .ok (.invokevirtual 158, 3) := by decide +kernel
theorem dX0_write_75 : decode cX0_write 75 = .ok (.goto 26, 3) := by decide +kernel
theorem dX0_write_34 : decode cX0_write 34 = .ok (.aload_n 0, 1) := by decide +kernel
theorem dX0_write_35 : decode cX0_write 35 = .ok (.iload_n 2, 1) := by decide +kernel
theorem dX0_write_36 : decode cX0_write 36 = .ok (.iconst 1, 1) := by decide +kernel
theorem dX0_write_37 : decode cX0_write 37 = .ok (.aload_n 0, 1) := by decide +kernel
theorem dX0_write_38 : decode cX0_write 38 = .ok (.getfield 64, 3) := by decide +kernel
theorem dX0_write_41 : decode cX0_write 41 = .ok (.getfield 155, 3) := by decide +kernel
theorem dX0_write_44 : decode cX0_write 44 = .ok (.iload_n 1, 1) := by decide +kernel
theorem dX0_write_45 : decode cX0_write 45 = .ok (.iaload, 1) := by decide +kernel
theorem dX0_write_46 : decode cX0_write 46 = .ok (.iconst 0, 1) := by decide +kernel
theorem dX0_write_47 : decode cX0_write 47 = .ok (.iload_n 1, 1) := by decide +kernel
theorem dX0_write_48 : decode cX0_write 48 = .ok (.invokevirtual 139, 3) := by decide +kernel
theorem dX0_write_51 : decode cX0_write 51 = .ok (.return_, 1) := by decide +kernel
theorem dX0_write_25 : decode cX0_write 25 = .ok (.return_, 1) := by decide +kernel
theorem dX0_layOut_0 : decode cX0_layOut 0 = .ok (.aload_n 0, 1) := by decide +kernel
theorem dX0_layOut_1 : decode cX0_layOut 1 = .ok (.getfield 9, 3) := by decide +kernel
theorem dX0_layOut_4 : decode cX0_layOut 4 = .ok (.iload_n 1, 1) := by decide +kernel
theorem dX0_layOut_5 : decode cX0_layOut 5 = .ok (.if_icmp .ne 4, 3) := by decide +kernel
theorem dX0_layOut_9 : decode cX0_layOut 9 = .ok (.aload_n 0, 1) := by decide +kernel
theorem dX0_layOut_10 : decode cX0_layOut 10 = .ok (.iload_n 1, 1) := by decide +kernel
theorem dX0_layOut_11 : decode cX0_layOut 11 = .ok (.putfield 9, 3) := by decide +kernel
theorem dX0_layOut_14 : decode cX0_layOut 14 = .ok (.iconst 0, 1) := by decide +kernel
theorem dX0_layOut_15 : decode cX0_layOut 15 = .ok (.istore_n 2, 1) := by decide +kernel
theorem dX0_layOut_16 : decode cX0_layOut 16 = .ok (.iload_n 2, 1) := by decide +kernel
theorem dX0_layOut_17 : decode cX0_layOut 17 = .ok (.aload_n 0, 1) := by decide +kernel
theorem dX0_layOut_18 : decode cX0_layOut 18 = .ok (.getfield 60, 3) := by decide +kernel
theorem dX0_layOut_21 : decode cX0_layOut 21 = .ok (.getfield 68, 3) := by decide +kernel
theorem dX0_layOut_24 : decode cX0_layOut 24 = .ok (.if_icmp .ge 78, 3) := by decide +kernel
theorem dX0_layOut_27 : decode cX0_layOut 27 = .ok (.aload_n 0, 1) := by decide +kernel
theorem dX0_layOut_28 : decode cX0_layOut 28 = .ok (.getfield 46, 3) := by decide +kernel
theorem dX0_layOut_31 : decode cX0_layOut 31 = .ok (.iload_n 2, 1) := by decide +kernel
theorem dX0_layOut_32 : decode cX0_layOut 32 = .ok (.aload_n 0, 1) := by decide +kernel
theorem dX0_layOut_33 : decode cX0_layOut 33 = .ok (.iload_n 2, 1) := by decide +kernel
theorem dX0_layOut_34 : decode cX0_layOut 34 = .ok (.invokevirtual 73, 3) := by decide +kernel
theorem dX0_layOut_37 : decode cX0_layOut 37 = .ok (.ifCond .eq 7, 3) := by decide +kernel
theorem dX0_layOut_44 : decode cX0_layOut 44 = .ok (.aload_n 0, 1) := by decide +kernel
theorem dX0_layOut_45 : decode cX0_layOut 45 = .ok (.aload_n 0, 1) := by decide +kernel
theorem dX0_layOut_46 : decode cX0_layOut 46 = .ok (.getfield 60, 3) := by decide +kernel
theorem dX0_layOut_49 : decode cX0_layOut 49 = .ok (.iload_n 2, 1) := by decide +kernel
theorem dX0_layOut_50 : decode cX0_layOut 50 = .ok (.invokevirtual 77, 3) := by decide +kernel
theorem dX0_layOut_53 : decode cX0_layOut 53 = .ok (.invokevirtual 81, 3) := by decide +kernel
theorem dX0_layOut_56 : decode cX0_layOut 56 = .ok (.aload_n 0, 1) := by decide +kernel
theorem dX0_layOut_57 : decode cX0_layOut 57 = .ok (.aload_n 0, 1) := by decide +kernel
theorem dX0_layOut_58 : decode cX0_layOut 58 = .ok (.getfield 60, 3) := by decide +kernel
theorem dX0_layOut_61 : decode cX0_layOut 61 = .ok (.iload_n 2, 1) := by decide +kernel
theorem dX0_layOut_62 : decode cX0_layOut 62 = .ok (.invokevirtual 84, 3) := by decide +kernel
theorem dX0_layOut_65 : decode cX0_layOut 65 = .ok (.invokevirtual 81, 3) := by decide +kernel
theorem dX0_layOut_68 : decode cX0_layOut 68 = .ok (.iadd, 1) := by decide +kernel
theorem dX0_layOut_69 : decode cX0_layOut 69 = .ok (.aload_n 0, 1) := by decide +kernel
theorem dX0_layOut_70 : decode cX0_layOut 70 = .ok (.aload_n 0, 1) := by decide +kernel
theorem dX0_layOut_71 : decode cX0_layOut 71 = .ok (.getfield 60, 3) := by decide +kernel
theorem dX0_layOut_74 : decode cX0_layOut 74 = .ok (.iload_n 2, 1) := by decide +kernel
theorem dX0_layOut_75 : decode cX0_layOut 75 = .ok (.invokevirtual 87, 3) := by decide +kernel
theorem dX0_layOut_78 : decode cX0_layOut 78 = .ok (.invokevirtual 81, 3) := by decide +kernel
theorem dX0_layOut_81 : decode cX0_layOut 81 = .ok (.iadd, 1) := by decide +kernel
theorem dX0_layOut_82 : decode cX0_layOut 82 = .ok (.aload_n 0, 1) := by decide +kernel
theorem dX0_layOut_83 : decode cX0_layOut 83 = .ok (.iload_n 2, 1) := by decide +kernel
theorem dX0_layOut_84 : decode cX0_layOut 84 = .ok (.invokevirtual 90, 3) := by decide +kernel
theorem dX0_layOut_87 : decode cX0_layOut 87 = .ok (.iadd, 1) := by decide +kernel
theorem dX0_layOut_88 : decode cX0_layOut 88 = .ok (.iastore, 1) := by decide +kernel
theorem dX0_layOut_89 : decode cX0_layOut 89 = .ok (.aload_n 0, 1) := by decide +kernel
theorem dX0_layOut_90 : decode cX0_layOut 90 = .ok (.getfield 52, 3) := by decide +kernel
theorem dX0_layOut_93 : decode cX0_layOut 93 = .ok (.iload_n 2, 1) := by decide +kernel
theorem dX0_layOut_94 : decode cX0_layOut 94 = .ok (.iconst 0, 1) := by decide +kernel
theorem dX0_layOut_95 : decode cX0_layOut 95 = .ok (.bastore, 1) := by decide +kernel
theorem dX0_layOut_96 : decode cX0_layOut 96 = .ok (.iinc 2 1, 3) := by decide +kernel
theorem dX0_layOut_99 : decode cX0_layOut 99 = .ok (.goto (-83), 3) := by decide +kernel
theorem dX0_layOut_40 : decode cX0_layOut 40 = .ok (.iconst 1, 1) := by decide +kernel
theorem dX0_layOut_41 : decode cX0_layOut 41 = .ok (.goto 47, 3) := by decide +kernel
theorem dX0_layOut_102 : decode cX0_layOut 102 = .ok (.aload_n 0, 1) := by decide +kernel
theorem dX0_layOut_103 : decode cX0_layOut 103 = .ok (.invokevirtual 93, 3) := by decide +kernel
theorem dX0_layOut_106 : decode cX0_layOut 106 = .ok (.aload_n 0, 1) := by decide +kernel
theorem dX0_layOut_107 : decode cX0_layOut 107 = .ok (.getfield 60, 3) := by decide +kernel
theorem dX0_layOut_110 : decode cX0_layOut 110 = .ok (.getfield 68, 3) := by decide +kernel
theorem dX0_layOut_113 : decode cX0_layOut 113 = .ok (.iconst 1, 1) := by decide +kernel
theorem dX0_layOut_114 : decode cX0_layOut 114 = .ok (.isub, 1) := by decide +kernel
theorem dX0_layOut_115 : decode cX0_layOut 115 = .ok (.istore_n 2, 1) := by decide +kernel
theorem dX0_layOut_116 : decode cX0_layOut 116 = .ok (.iload_n 2, 1) := by decide +kernel
theorem dX0_layOut_117 : decode cX0_layOut 117 = .ok (.ifCond .lt 27, 3) := by decide +kernel
theorem dX0_layOut_120 : decode cX0_layOut 120 = .ok (.aload_n 0, 1) := by decide +kernel
theorem dX0_layOut_121 : decode cX0_layOut 121 = .ok (.getfield 64, 3) := by decide +kernel
theorem dX0_layOut_124 : decode cX0_layOut 124 = .ok (.getfield 96, 3) := by decide +kernel
theorem dX0_layOut_127 : decode cX0_layOut 127 = .ok (.iload_n 2, 1) := by decide +kernel
theorem dX0_layOut_128 : decode cX0_layOut 128 = .ok (.iaload, 1) := by decide +kernel
theorem dX0_layOut_129 : decode cX0_layOut 129 = .ok (.iconst (-1), 1) := by decide +kernel
theorem dX0_layOut_130 : decode cX0_layOut 130 = .ok (.if_icmp .eq 8, 3) := by decide +kernel
theorem dX0_layOut_138 : decode cX0_layOut 138 = .ok (.iinc 2 (-1), 3) := by decide +kernel
theorem dX0_layOut_141 : decode cX0_layOut 141 = .ok (.goto (-25), 3) := by decide +kernel
theorem dX0_layOut_133 : decode cX0_layOut 133 = .ok (.aload_n 0, 1) := by decide +kernel
theorem dX0_layOut_134 : decode cX0_layOut 134 = .ok (.iload_n 2, 1) := by decide +kernel
theorem dX0_layOut_135 : decode cX0_layOut 135 = .ok (.invokevirtual 101, 3) := by decide +kernel
theorem dX0_layOut_144 : decode cX0_layOut 144 = .ok (.iconst 0, 1) := by decide +kernel
theorem dX0_layOut_145 : decode cX0_layOut 145 = .ok (.istore_n 2, 1) := by decide +kernel
theorem dX0_layOut_146 : decode cX0_layOut 146 = .ok (.iload_n 2, 1) := by decide +kernel
theorem dX0_layOut_147 : decode cX0_layOut 147 = .ok (.aload_n 0, 1) := by decide +kernel
theorem dX0_layOut_148 : decode cX0_layOut 148 = .ok (.getfield 60, 3) := by decide +kernel
theorem dX0_layOut_151 : decode cX0_layOut 151 = .ok (.getfield 68, 3) := by decide +kernel
theorem dX0_layOut_154 : decode cX0_layOut 154 = .ok (.if_icmp .ge 32, 3) := by decide +kernel
theorem dX0_layOut_157 : decode cX0_layOut 157 = .ok (.aload_n 0, 1) := by decide +kernel
theorem dX0_layOut_158 : decode cX0_layOut 158 = .ok (.getfield 64, 3) := by decide +kernel
theorem dX0_layOut_161 : decode cX0_layOut 161 = .ok (.getfield 96, 3) := by decide +kernel
theorem dX0_layOut_164 : decode cX0_layOut 164 = .ok (.iload_n 2, 1) := by decide +kernel
theorem dX0_layOut_165 : decode cX0_layOut 165 = .ok (.iaload, 1) := by decide +kernel
theorem dX0_layOut_166 : decode cX0_layOut 166 = .ok (.iconst (-1), 1) := by decide +kernel
theorem dX0_layOut_167 : decode cX0_layOut 167 = .ok (.if_icmp .eq 13, 3) := by decide +kernel
theorem dX0_layOut_180 : decode cX0_layOut 180 = .ok (.iinc 2 1, 3) := by decide +kernel
theorem dX0_layOut_183 : decode cX0_layOut 183 = .ok (.goto (-37), 3) := by decide +kernel
theorem dX0_layOut_170 : decode cX0_layOut 170 = .ok (.aload_n 0, 1) := by decide +kernel
theorem dX0_layOut_171 : decode cX0_layOut 171 = .ok (.iload_n 2, 1) := by decide +kernel
theorem dX0_layOut_172 : decode cX0_layOut 172 = .ok (.invokevirtual 105, 3) := by decide +kernel
theorem dX0_layOut_175 : decode cX0_layOut 175 = .ok (.aload_n 0, 1) := by decide +kernel
theorem dX0_layOut_176 : decode cX0_layOut 176 = .ok (.iload_n 2, 1) := by decide +kernel
theorem dX0_layOut_177 : decode cX0_layOut 177 = .ok (.invokevirtual 108, 3) := by decide +kernel
theorem dX0_layOut_186 : decode cX0_layOut 186 = .ok (.return_, 1) := by decide +kernel
theorem dX0_layOut_8 : decode cX0_layOut 8 = .ok (.return_, 1) := by decide +kernel
theorem dX8_wholeCodeLength_0 : decode cX8_wholeCodeLength 0 = .ok (.aload_n 0, 1) := by decide +kernel
theorem dX8_wholeCodeLength_1 : decode cX8_wholeCodeLength 1 = .ok (.getfield 37, 3) := by decide +kernel
theorem dX8_wholeCodeLength_4 : decode cX8_wholeCodeLength 4 = .ok (.getfield 219, 3) := by decide +kernel
theorem dX8_wholeCodeLength_7 : decode cX8_wholeCodeLength 7 = .ok (.ifCond .eq 5, 3) := by decide +kernel
theorem dX8_wholeCodeLength_12 : decode cX8_wholeCodeLength 12 = .ok (.aload_n 0, 1) := by decide +kernel
theorem dX8_wholeCodeLength_13 : decode cX8_wholeCodeLength 13 = .ok (.getfield 44, 3) := by decide +kernel
theorem dX8_wholeCodeLength_16 : decode cX8_wholeCodeLength 16 = .ok (.iload_n 1, 1) := by decide +kernel
theorem dX8_wholeCodeLength_17 : decode cX8_wholeCodeLength 17 = .ok (.invokevirtual 342, 3) := by decide +kernel
theorem dX8_wholeCodeLength_20 : decode cX8_wholeCodeLength 20 = .ok (.aload_n 0, 1) := by decide +kernel
theorem dX8_wholeCodeLength_21 : decode cX8_wholeCodeLength 21 = .ok (.getfield 44, 3) := by decide +kernel
theorem dX8_wholeCodeLength_24 : decode cX8_wholeCodeLength 24 = .ok (.getfield 348, 3) := by decide +kernel
theorem dX8_wholeCodeLength_27 : decode cX8_wholeCodeLength 27 = .ok (.ireturn, 1) := by decide +kernel
theorem dX8_wholeCodeLength_10 : decode cX8_wholeCodeLength 10 = .ok (.iconst 0, 1) := by decide +kernel
theorem dX8_wholeCodeLength_11 : decode cX8_wholeCodeLength 11 = .ok (.ireturn, 1) := by decide +kernel
theorem dX8_many_0 : decode cX8_many 0 = .ok (.iload_n 1, 1) := by decide +kernel
theorem dX8_many_1 : decode cX8_many 1 = .ok (.ifCond .lt 13, 3) := by decide +kernel
theorem dX8_many_14 : decode cX8_many 14 = .ok (.iconst 0, 1) := by decide +kernel
theorem dX8_many_4 : decode cX8_many 4 = .ok (.iload_n 1, 1) := by decide +kernel
theorem dX8_many_5 : decode cX8_many 5 = .ok (.bipush 10, 2) := by decide +kernel
theorem dX8_many_7 : decode cX8_many 7 = .ok (.if_icmp .gt 7, 3) := by decide +kernel
theorem dX8_many_10 : decode cX8_many 10 = .ok (.iconst 1, 1) := by decide +kernel
theorem dX8_many_11 : decode cX8_many 11 = .ok (.goto 4, 3) := by decide +kernel
theorem dX8_many_15 : decode cX8_many 15 = .ok (.invokestatic 95, 3) := by decide +kernel
theorem dX8_many_18 : decode cX8_many 18 = .ok (.aload_n 0, 1) := by decide +kernel
theorem dX8_many_19 : decode cX8_many 19 = .ok (.invokevirtual 146, 3) := by decide +kernel
theorem dX8_many_22 : decode cX8_many 22 = .ok (.iload_n 1, 1) := by decide +kernel
theorem dX8_many_23 : decode cX8_many 23 = .ok (.tableswitch 124 0 9 #[53, 61, 69, 77, 85, 93, 101, 109, 114, 119], 53) := by decide +kernel
theorem dX8_many_76 : decode cX8_many 76 = .ok (.aload_n 0, 1) := by decide +kernel
theorem dX8_many_77 : decode cX8_many 77 = .ok (.getfield 12, 3) := by decide +kernel
theorem dX8_many_80 : decode cX8_many 80 = .ok (.getfield 99, 3) := by decide +kernel
theorem dX8_many_83 : decode cX8_many 83 = .ok (.ireturn, 1) := by decide +kernel
theorem dX8_many_84 : decode cX8_many 84 = .ok (.aload_n 0, 1) := by decide +kernel
theorem dX8_many_85 : decode cX8_many 85 = .ok (.getfield 19, 3) := by decide +kernel
theorem dX8_many_88 : decode cX8_many 88 = .ok (.getfield 179, 3) := by decide +kernel
theorem dX8_many_91 : decode cX8_many 91 = .ok (.ireturn, 1) := by decide +kernel
theorem dX8_many_92 : decode cX8_many 92 = .ok (.aload_n 0, 1) := by decide +kernel
theorem dX8_many_93 : decode cX8_many 93 = .ok (.getfield 28, 3) := by decide +kernel
theorem dX8_many_96 : decode cX8_many 96 = .ok (.getfield 283, 3) := by decide +kernel
theorem dX8_many_99 : decode cX8_many 99 = .ok (.ireturn, 1) := by decide +kernel
theorem dX8_many_100 : decode cX8_many 100 = .ok (.aload_n 0, 1) := by decide +kernel
theorem dX8_many_101 : decode cX8_many 101 = .ok (.getfield 37, 3) := by decide +kernel
theorem dX8_many_104 : decode cX8_many 104 = .ok (.getfield 219, 3) := by decide +kernel
theorem dX8_many_107 : decode cX8_many 107 = .ok (.ireturn, 1) := by decide +kernel
theorem dX8_many_108 : decode cX8_many 108 = .ok (.aload_n 0, 1) := by decide +kernel
theorem dX8_many_109 : decode cX8_many 109 = .ok (.getfield 28, 3) := by decide +kernel
theorem dX8_many_112 : decode cX8_many 112 = .ok (.getfield 286, 3) := by decide +kernel
theorem dX8_many_115 : decode cX8_many 115 = .ok (.ireturn, 1) := by decide +kernel
theorem dX8_many_116 : decode cX8_many 116 = .ok (.aload_n 0, 1) := by decide +kernel
theorem dX8_many_117 : decode cX8_many 117 = .ok (.getfield 28, 3) := by decide +kernel
theorem dX8_many_120 : decode cX8_many 120 = .ok (.getfield 289, 3) := by decide +kernel
theorem dX8_many_123 : decode cX8_many 123 = .ok (.ireturn, 1) := by decide +kernel
theorem dX8_many_124 : decode cX8_many 124 = .ok (.aload_n 0, 1) := by decide +kernel
theorem dX8_many_125 : decode cX8_many 125 = .ok (.getfield 28, 3) := by decide +kernel
theorem dX8_many_128 : decode cX8_many 128 = .ok (.getfield 292, 3) := by decide +kernel
theorem dX8_many_131 : decode cX8_many 131 = .ok (.ireturn, 1) := by decide +kernel
theorem dX8_many_132 : decode cX8_many 132 = .ok (.aload_n 0, 1) := by decide +kernel
theorem dX8_many_133 : decode cX8_many 133 = .ok (.getfield 74, 3) := by decide +kernel
theorem dX8_many_136 : decode cX8_many 136 = .ok (.ireturn, 1) := by decide +kernel
theorem dX8_many_137 : decode cX8_many 137 = .ok (.aload_n 0, 1) := by decide +kernel
theorem dX8_many_138 : decode cX8_many 138 = .ok (.getfield 78, 3) := by decide +kernel
theorem dX8_many_141 : decode cX8_many 141 = .ok (.ireturn, 1) := by decide +kernel
theorem dX8_many_142 : decode cX8_many 142 = .ok (.aload_n 0, 1) := by decide +kernel
theorem dX8_many_143 : decode cX8_many 143 = .ok (.getfield 81, 3) := by decide +kernel
theorem dX8_many_146 : decode cX8_many 146 = .ok (.ireturn, 1) := by decide +kernel
theorem dX8_many_147 : decode cX8_many 147 = .ok (.aload_n 0, 1) := by decide +kernel
theorem dX8_many_148 : decode cX8_many 148 = .ok (.aload_n 0, 1) := by decide +kernel
theorem dX8_many_149 : decode cX8_many 149 = .ok (.getfield 74, 3) := by decide +kernel
theorem dX8_many_152 : decode cX8_many 152 = .ok (.invokevirtual 295, 3) := by decide +kernel
theorem dX8_many_155 : decode cX8_many 155 = .ok (.ireturn, 1) := by decide +kernel
theorem dX1_has_0 : decode cX1_has 0 = .ok (.iload_n 1, 1) := by decide +kernel
theorem dX1_has_1 : decode cX1_has 1 = .ok (.ifCond .lt 15, 3) := by decide +kernel
theorem dX1_has_16 : decode cX1_has 16 = .ok (.iconst 0, 1) := by decide +kernel
theorem dX1_has_17 : decode cX1_has 17 = .ok (.ireturn, 1) := by decide +kernel
theorem dX1_has_4 : decode cX1_has 4 = .ok (.iload_n 1, 1) := by decide +kernel
theorem dX1_has_5 : decode cX1_has 5 = .ok (.aload_n 0, 1) := by decide +kernel
theorem dX1_has_6 : decode cX1_has 6 = .ok (.getfield 9, 3) := by decide +kernel
theorem dX1_has_9 : decode cX1_has 9 = .ok (.if_icmp .ge 7, 3) := by decide +kernel
theorem dX1_has_12 : decode cX1_has 12 = .ok (.iconst 1, 1) := by decide +kernel
theorem dX1_has_13 : decode cX1_has 13 = .ok (.goto 4, 3) := by decide +kernel
theorem dX8_needProcedure_0 : decode cX8_needProcedure 0 = .ok (.aload_n 0, 1) := by decide +kernel
theorem dX8_needProcedure_1 : decode cX8_needProcedure 1 = .ok (.getfield 12, 3) := by decide +kernel
theorem dX8_needProcedure_4 : decode cX8_needProcedure 4 = .ok (.iload_n 1, 1) := by decide +kernel
theorem dX8_needProcedure_5 : decode cX8_needProcedure 5 = .ok (.invokevirtual 351, 3) := by decide +kernel
theorem dX8_needProcedure_8 : decode cX8_needProcedure 8 = .ok (.ifCond .ne 14, 3) := by decide +kernel
theorem dX8_needProcedure_22 : decode cX8_needProcedure 22 = .ok (.return_, 1) := by decide +kernel
theorem dX8_codeLength_0 : decode cX8_codeLength 0 = .ok (.aload_n 0, 1) := by decide +kernel
theorem dX8_codeLength_1 : decode cX8_codeLength 1 = .ok (.getfield 37, 3) := by decide +kernel
theorem dX8_codeLength_4 : decode cX8_codeLength 4 = .ok (.getfield 219, 3) := by decide +kernel
theorem dX8_codeLength_7 : decode cX8_codeLength 7 = .ok (.ifCond .eq 5, 3) := by decide +kernel
theorem dX8_codeLength_12 : decode cX8_codeLength 12 = .ok (.aload_n 0, 1) := by decide +kernel
theorem dX8_codeLength_13 : decode cX8_codeLength 13 = .ok (.getfield 44, 3) := by decide +kernel
theorem dX8_codeLength_16 : decode cX8_codeLength 16 = .ok (.aload_n 0, 1) := by decide +kernel
theorem dX8_codeLength_17 : decode cX8_codeLength 17 = .ok (.getfield 74, 3) := by decide +kernel
theorem dX8_codeLength_20 : decode cX8_codeLength 20 = .ok (.invokevirtual 342, 3) := by decide +kernel
theorem dX8_codeLength_23 : decode cX8_codeLength 23 = .ok (.aload_n 0, 1) := by decide +kernel
theorem dX8_codeLength_24 : decode cX8_codeLength 24 = .ok (.getfield 44, 3) := by decide +kernel
theorem dX8_codeLength_27 : decode cX8_codeLength 27 = .ok (.getfield 345, 3) := by decide +kernel
theorem dX8_codeLength_30 : decode cX8_codeLength 30 = .ok (.iload_n 1, 1) := by decide +kernel
theorem dX8_codeLength_31 : decode cX8_codeLength 31 = .ok (.iaload, 1) := by decide +kernel
theorem dX8_codeLength_32 : decode cX8_codeLength 32 = .ok (.ireturn, 1) := by decide +kernel
theorem dX8_codeLength_10 : decode cX8_codeLength 10 = .ok (.iconst 0, 1) := by decide +kernel
theorem dX8_codeLength_11 : decode cX8_codeLength 11 = .ok (.ireturn, 1) := by decide +kernel
theorem dX8_ofProcedure_0 : decode cX8_ofProcedure 0 = .ok (.aload_n 0, 1) := by decide +kernel
theorem dX8_ofProcedure_1 : decode cX8_ofProcedure 1 = .ok (.iload_n 1, 1) := by decide +kernel
theorem dX8_ofProcedure_2 : decode cX8_ofProcedure 2 = .ok (.invokevirtual 87, 3) := by decide +kernel
theorem dX8_ofProcedure_5 : decode cX8_ofProcedure 5 = .ok (.iload_n 2, 1) := by decide +kernel
theorem dX8_ofProcedure_6 : decode cX8_ofProcedure 6 = .ok (.ifCond .lt 13, 3) := by decide +kernel
theorem dX8_ofProcedure_19 : decode cX8_ofProcedure 19 = .ok (.iconst 0, 1) := by decide +kernel
theorem dX8_ofProcedure_9 : decode cX8_ofProcedure 9 = .ok (.iload_n 2, 1) := by decide +kernel
theorem dX8_ofProcedure_10 : decode cX8_ofProcedure 10 = .ok (.bipush 7, 2) := by decide +kernel
theorem dX8_ofProcedure_12 : decode cX8_ofProcedure 12 = .ok (.if_icmp .gt 7, 3) := by decide +kernel
theorem dX8_ofProcedure_15 : decode cX8_ofProcedure 15 = .ok (.iconst 1, 1) := by decide +kernel
theorem dX8_ofProcedure_16 : decode cX8_ofProcedure 16 = .ok (.goto 4, 3) := by decide +kernel
theorem dX8_ofProcedure_20 : decode cX8_ofProcedure 20 = .ok (.invokestatic 95, 3) := by decide +kernel
theorem dX8_ofProcedure_23 : decode cX8_ofProcedure 23 = .ok (.aload_n 0, 1) := by decide +kernel
theorem dX8_ofProcedure_24 : decode cX8_ofProcedure 24 = .ok (.invokevirtual 146, 3) := by decide +kernel
theorem dX8_ofProcedure_27 : decode cX8_ofProcedure 27 = .ok (.iload_n 2, 1) := by decide +kernel
theorem dX8_ofProcedure_28 : decode cX8_ofProcedure 28 = .ok (.tableswitch 122 0 6 #[44, 54, 64, 74, 84, 94, 112], 44) := by decide +kernel
theorem dX8_ofProcedure_72 : decode cX8_ofProcedure 72 = .ok (.aload_n 0, 1) := by decide +kernel
theorem dX8_ofProcedure_73 : decode cX8_ofProcedure 73 = .ok (.getfield 12, 3) := by decide +kernel
theorem dX8_ofProcedure_76 : decode cX8_ofProcedure 76 = .ok (.getfield 149, 3) := by decide +kernel
theorem dX8_ofProcedure_79 : decode cX8_ofProcedure 79 = .ok (.iload_n 1, 1) := by decide +kernel
theorem dX8_ofProcedure_80 : decode cX8_ofProcedure 80 = .ok (.iaload, 1) := by decide +kernel
theorem dX8_ofProcedure_81 : decode cX8_ofProcedure 81 = .ok (.ireturn, 1) := by decide +kernel
theorem dX8_ofProcedure_82 : decode cX8_ofProcedure 82 = .ok (.aload_n 0, 1) := by decide +kernel
theorem dX8_ofProcedure_83 : decode cX8_ofProcedure 83 = .ok (.getfield 12, 3) := by decide +kernel
theorem dX8_ofProcedure_86 : decode cX8_ofProcedure 86 = .ok (.getfield 152, 3) := by decide +kernel
theorem dX8_ofProcedure_89 : decode cX8_ofProcedure 89 = .ok (.iload_n 1, 1) := by decide +kernel
theorem dX8_ofProcedure_90 : decode cX8_ofProcedure 90 = .ok (.iaload, 1) := by decide +kernel
theorem dX8_ofProcedure_91 : decode cX8_ofProcedure 91 = .ok (.ireturn, 1) := by decide +kernel
theorem dX8_ofProcedure_92 : decode cX8_ofProcedure 92 = .ok (.aload_n 0, 1) := by decide +kernel
theorem dX8_ofProcedure_93 : decode cX8_ofProcedure 93 = .ok (.getfield 12, 3) := by decide +kernel
theorem dX8_ofProcedure_96 : decode cX8_ofProcedure 96 = .ok (.getfield 155, 3) := by decide +kernel
theorem dX8_ofProcedure_99 : decode cX8_ofProcedure 99 = .ok (.iload_n 1, 1) := by decide +kernel
theorem dX8_ofProcedure_100 : decode cX8_ofProcedure 100 = .ok (.iaload, 1) := by decide +kernel
theorem dX8_ofProcedure_101 : decode cX8_ofProcedure 101 = .ok (.ireturn, 1) := by decide +kernel
theorem dX8_ofProcedure_102 : decode cX8_ofProcedure 102 = .ok (.aload_n 0, 1) := by decide +kernel
theorem dX8_ofProcedure_103 : decode cX8_ofProcedure 103 = .ok (.getfield 12, 3) := by decide +kernel
theorem dX8_ofProcedure_106 : decode cX8_ofProcedure 106 = .ok (.getfield 158, 3) := by decide +kernel
theorem dX8_ofProcedure_109 : decode cX8_ofProcedure 109 = .ok (.iload_n 1, 1) := by decide +kernel
theorem dX8_ofProcedure_110 : decode cX8_ofProcedure 110 = .ok (.iaload, 1) := by decide +kernel
theorem dX8_ofProcedure_111 : decode cX8_ofProcedure 111 = .ok (.ireturn, 1) := by decide +kernel
theorem dX8_ofProcedure_112 : decode cX8_ofProcedure 112 = .ok (.aload_n 0, 1) := by decide +kernel
theorem dX8_ofProcedure_113 : decode cX8_ofProcedure 113 = .ok (.getfield 28, 3) := by decide +kernel
theorem dX8_ofProcedure_116 : decode cX8_ofProcedure 116 = .ok (.getfield 161, 3) := by decide +kernel
theorem dX8_ofProcedure_119 : decode cX8_ofProcedure 119 = .ok (.iload_n 1, 1) := by decide +kernel
theorem dX8_ofProcedure_120 : decode cX8_ofProcedure 120 = .ok (.iaload, 1) := by decide +kernel
theorem dX8_ofProcedure_121 : decode cX8_ofProcedure 121 = .ok (.ireturn, 1) := by decide +kernel
theorem dX8_ofProcedure_122 : decode cX8_ofProcedure 122 = .ok (.aload_n 0, 1) := by decide +kernel
theorem dX8_ofProcedure_123 : decode cX8_ofProcedure 123 = .ok (.getfield 28, 3) := by decide +kernel
theorem dX8_ofProcedure_126 : decode cX8_ofProcedure 126 = .ok (.getfield 164, 3) := by decide +kernel
theorem dX8_ofProcedure_129 : decode cX8_ofProcedure 129 = .ok (.iload_n 1, 1) := by decide +kernel
theorem dX8_ofProcedure_130 : decode cX8_ofProcedure 130 = .ok (.baload, 1) := by decide +kernel
theorem dX8_ofProcedure_131 : decode cX8_ofProcedure 131 = .ok (.ifCond .eq 7, 3) := by decide +kernel
theorem dX8_ofProcedure_138 : decode cX8_ofProcedure 138 = .ok (.iconst 0, 1) := by decide +kernel
theorem dX8_ofProcedure_139 : decode cX8_ofProcedure 139 = .ok (.ireturn, 1) := by decide +kernel
theorem dX8_ofProcedure_134 : decode cX8_ofProcedure 134 = .ok (.iconst 1, 1) := by decide +kernel
theorem dX8_ofProcedure_135 : decode cX8_ofProcedure 135 = .ok (.goto 4, 3) := by decide +kernel
theorem dX8_ofProcedure_140 : decode cX8_ofProcedure 140 = .ok (.aload_n 0, 1) := by decide +kernel
theorem dX8_ofProcedure_141 : decode cX8_ofProcedure 141 = .ok (.getfield 12, 3) := by decide +kernel
theorem dX8_ofProcedure_144 : decode cX8_ofProcedure 144 = .ok (.getfield 168, 3) := by decide +kernel
theorem dX8_ofProcedure_147 : decode cX8_ofProcedure 147 = .ok (.iload_n 1, 1) := by decide +kernel
theorem dX8_ofProcedure_148 : decode cX8_ofProcedure 148 = .ok (.iaload, 1) := by decide +kernel
theorem dX8_ofProcedure_149 : decode cX8_ofProcedure 149 = .ok (.ireturn, 1) := by decide +kernel
theorem dX8_ofProcedure_150 : decode cX8_ofProcedure 150 = .ok (.aload_n 0, 1) := by decide +kernel
theorem dX8_ofProcedure_151 : decode cX8_ofProcedure 151 = .ok (.iload_n 1, 1) := by decide +kernel
theorem dX8_ofProcedure_152 : decode cX8_ofProcedure 152 = .ok (.invokevirtual 171, 3) := by decide +kernel
theorem dX8_ofProcedure_155 : decode cX8_ofProcedure 155 = .ok (.ireturn, 1) := by decide +kernel
theorem dX8_isName_0 : decode cX8_isName 0 = .ok (.iload_n 0, 1) := by decide +kernel
theorem dX8_isName_1 : decode cX8_isName 1 = .ok (.ifCond .lt 13, 3) := by decide +kernel
theorem dX8_isName_14 : decode cX8_isName 14 = .ok (.iconst 0, 1) := by decide +kernel
theorem dX8_isName_15 : decode cX8_isName 15 = .ok (.ireturn, 1) := by decide +kernel
theorem dX8_isName_4 : decode cX8_isName 4 = .ok (.iload_n 0, 1) := by decide +kernel
theorem dX8_isName_5 : decode cX8_isName 5 = .ok (.bipush 16, 2) := by decide +kernel
theorem dX8_isName_7 : decode cX8_isName 7 = .ok (.if_icmp .ge 7, 3) := by decide +kernel
theorem dX8_isName_10 : decode cX8_isName 10 = .ok (.iconst 1, 1) := by decide +kernel
theorem dX8_isName_11 : decode cX8_isName 11 = .ok (.goto 4, 3) := by decide +kernel
theorem dX4_reaching_0 : decode cX4_reaching 0 = .ok (.iconst 0, 1) := by decide +kernel
theorem dX4_reaching_1 : decode cX4_reaching 1 = .ok (.istore_n 3, 1) := by decide +kernel
theorem dX4_reaching_2 : decode cX4_reaching 2 = .ok (.iconst 0, 1) := by decide +kernel
theorem dX4_reaching_3 : decode cX4_reaching 3 = .ok (.istore 4, 2) := by decide +kernel
theorem dX4_reaching_5 : decode cX4_reaching 5 = .ok (.iload 4, 2) := by decide +kernel
theorem dX4_reaching_7 : decode cX4_reaching 7 = .ok (.aload_n 0, 1) := by decide +kernel
theorem dX4_reaching_8 : decode cX4_reaching 8 = .ok (.getfield 69, 3) := by decide +kernel
theorem dX4_reaching_11 : decode cX4_reaching 11 = .ok (.getfield 76, 3) := by decide +kernel
theorem dX4_reaching_14 : decode cX4_reaching 14 = .ok (.if_icmp .ge 119, 3) := by decide +kernel
theorem dX4_reaching_17 : decode cX4_reaching 17 = .ok (.aload_n 0, 1) := by decide +kernel
theorem dX4_reaching_18 : decode cX4_reaching 18 = .ok (.getfield 9, 3) := by decide +kernel
theorem dX4_reaching_21 : decode cX4_reaching 21 = .ok (.iload 4, 2) := by decide +kernel
theorem dX4_reaching_23 : decode cX4_reaching 23 = .ok (.iaload, 1) := by decide +kernel
theorem dX4_reaching_24 : decode cX4_reaching 24 = .ok (.iconst (-1), 1) := by decide +kernel
theorem dX4_reaching_25 : decode cX4_reaching 25 = .ok (.if_icmp .eq 62, 3) := by decide +kernel
theorem dX4_reaching_87 : decode cX4_reaching 87 = .ok (.iconst 0, 1) := by decide +kernel
theorem dX4_reaching_88 : decode cX4_reaching 88 = .ok (.istore 5, 2) := by decide +kernel
theorem dX4_reaching_90 : decode cX4_reaching 90 = .ok (.iload 5, 2) := by decide +kernel
theorem dX4_reaching_92 : decode cX4_reaching 92 = .ok (.ifCond .eq 35, 3) := by decide +kernel
theorem dX4_reaching_127 : decode cX4_reaching 127 = .ok (.iinc 4 1, 3) := by decide +kernel
theorem dX4_reaching_130 : decode cX4_reaching 130 = .ok (.goto (-125), 3) := by decide +kernel
theorem dX4_reaching_28 : decode cX4_reaching 28 = .ok (.aload_n 0, 1) := by decide +kernel
theorem dX4_reaching_29 : decode cX4_reaching 29 = .ok (.getfield 69, 3) := by decide +kernel
theorem dX4_reaching_32 : decode cX4_reaching 32 = .ok (.iload 4, 2) := by decide +kernel
theorem dX4_reaching_34 : decode cX4_reaching 34 = .ok (.invokevirtual 120, 3) := by decide +kernel
theorem dX4_reaching_37 : decode cX4_reaching 37 = .ok (.ifCond .eq 50, 3) := by decide +kernel
theorem dX4_reaching_40 : decode cX4_reaching 40 = .ok (.aload_n 0, 1) := by decide +kernel
theorem dX4_reaching_41 : decode cX4_reaching 41 = .ok (.getfield 69, 3) := by decide +kernel
theorem dX4_reaching_44 : decode cX4_reaching 44 = .ok (.getfield 123, 3) := by decide +kernel
theorem dX4_reaching_47 : decode cX4_reaching 47 = .ok (.iload 4, 2) := by decide +kernel
theorem dX4_reaching_49 : decode cX4_reaching 49 = .ok (.iaload, 1) := by decide +kernel
theorem dX4_reaching_50 : decode cX4_reaching 50 = .ok (.iload_n 2, 1) := by decide +kernel
theorem dX4_reaching_51 : decode cX4_reaching 51 = .ok (.if_icmp .ne 36, 3) := by decide +kernel
theorem dX4_reaching_54 : decode cX4_reaching 54 = .ok (.aload_n 0, 1) := by decide +kernel
theorem dX4_reaching_55 : decode cX4_reaching 55 = .ok (.getfield 9, 3) := by decide +kernel
theorem dX4_reaching_58 : decode cX4_reaching 58 = .ok (.iload 4, 2) := by decide +kernel
theorem dX4_reaching_60 : decode cX4_reaching 60 = .ok (.iaload, 1) := by decide +kernel
theorem dX4_reaching_61 : decode cX4_reaching 61 = .ok (.iload_n 1, 1) := by decide +kernel
theorem dX4_reaching_62 : decode cX4_reaching 62 = .ok (.if_icmp .eq 21, 3) := by decide +kernel
theorem dX4_reaching_83 : decode cX4_reaching 83 = .ok (.iconst 1, 1) := by decide +kernel
theorem dX4_reaching_84 : decode cX4_reaching 84 = .ok (.goto 4, 3) := by decide +kernel
theorem dX4_reaching_95 : decode cX4_reaching 95 = .ok (.aload_n 0, 1) := by decide +kernel
theorem dX4_reaching_96 : decode cX4_reaching 96 = .ok (.getfield 15, 3) := by decide +kernel
theorem dX4_reaching_99 : decode cX4_reaching 99 = .ok (.iload 4, 2) := by decide +kernel
theorem dX4_reaching_101 : decode cX4_reaching 101 = .ok (.iaload, 1) := by decide +kernel
theorem dX4_reaching_102 : decode cX4_reaching 102 = .ok (.iconst (-1), 1) := by decide +kernel
theorem dX4_reaching_103 : decode cX4_reaching 103 = .ok (.if_icmp .eq 21, 3) := by decide +kernel
theorem dX4_reaching_124 : decode cX4_reaching 124 = .ok (.iinc 3 1, 3) := by decide +kernel
theorem dX4_reaching_106 : decode cX4_reaching 106 = .ok (.aload_n 0, 1) := by decide +kernel
theorem dX4_reaching_107 : decode cX4_reaching 107 = .ok (.getfield 65, 3) := by decide +kernel
theorem dX4_reaching_110 : decode cX4_reaching 110 = .ok (.iload_n 1, 1) := by decide +kernel
theorem dX4_reaching_111 : decode cX4_reaching 111 = .ok (.aload_n 0, 1) := by decide +kernel
theorem dX4_reaching_112 : decode cX4_reaching 112 = .ok (.getfield 15, 3) := by decide +kernel
theorem dX4_reaching_115 : decode cX4_reaching 115 = .ok (.iload 4, 2) := by decide +kernel
theorem dX4_reaching_117 : decode cX4_reaching 117 = .ok (.iaload, 1) := by decide +kernel
theorem dX4_reaching_118 : decode cX4_reaching 118 = .ok (.invokevirtual 179, 3) := by decide +kernel
theorem dX4_reaching_121 : decode cX4_reaching 121 = .ok (.ifCond .eq 6, 3) := by decide +kernel
theorem dX4_reaching_65 : decode cX4_reaching 65 = .ok (.aload_n 0, 1) := by decide +kernel
theorem dX4_reaching_66 : decode cX4_reaching 66 = .ok (.getfield 65, 3) := by decide +kernel
theorem dX4_reaching_69 : decode cX4_reaching 69 = .ok (.aload_n 0, 1) := by decide +kernel
theorem dX4_reaching_70 : decode cX4_reaching 70 = .ok (.getfield 9, 3) := by decide +kernel
theorem dX4_reaching_73 : decode cX4_reaching 73 = .ok (.iload 4, 2) := by decide +kernel
theorem dX4_reaching_75 : decode cX4_reaching 75 = .ok (.iaload, 1) := by decide +kernel
theorem dX4_reaching_76 : decode cX4_reaching 76 = .ok (.iload_n 1, 1) := by decide +kernel
theorem dX4_reaching_77 : decode cX4_reaching 77 = .ok (.invokevirtual 179, 3) := by decide +kernel
theorem dX4_reaching_80 : decode cX4_reaching 80 = .ok (.ifCond .eq 7, 3) := by decide +kernel
theorem dX4_reaching_133 : decode cX4_reaching 133 = .ok (.iload_n 3, 1) := by decide +kernel
theorem dX4_reaching_134 : decode cX4_reaching 134 = .ok (.ireturn, 1) := by decide +kernel
theorem dX8_hiddenBy_0 : decode cX8_hiddenBy 0 = .ok (.aload_n 0, 1) := by decide +kernel
theorem dX8_hiddenBy_1 : decode cX8_hiddenBy 1 = .ok (.iload_n 1, 1) := by decide +kernel
theorem dX8_hiddenBy_2 : decode cX8_hiddenBy 2 = .ok (.invokevirtual 87, 3) := by decide +kernel
theorem dX8_hiddenBy_5 : decode cX8_hiddenBy 5 = .ok (.iload_n 2, 1) := by decide +kernel
theorem dX8_hiddenBy_6 : decode cX8_hiddenBy 6 = .ok (.invokestatic 91, 3) := by decide +kernel
theorem dX8_hiddenBy_9 : decode cX8_hiddenBy 9 = .ok (.invokestatic 95, 3) := by decide +kernel
theorem dX8_hiddenBy_12 : decode cX8_hiddenBy 12 = .ok (.aload_n 0, 1) := by decide +kernel
theorem dX8_hiddenBy_13 : decode cX8_hiddenBy 13 = .ok (.invokevirtual 146, 3) := by decide +kernel
theorem dX8_hiddenBy_16 : decode cX8_hiddenBy 16 = .ok (.aload_n 0, 1) := by decide +kernel
theorem dX8_hiddenBy_17 : decode cX8_hiddenBy 17 = .ok (.getfield 12, 3) := by decide +kernel
theorem dX8_hiddenBy_20 : decode cX8_hiddenBy 20 = .ok (.iload_n 1, 1) := by decide +kernel
theorem dX8_hiddenBy_21 : decode cX8_hiddenBy 21 = .ok (.iload_n 2, 1) := by decide +kernel
theorem dX8_hiddenBy_22 : decode cX8_hiddenBy 22 = .ok (.invokevirtual 102, 3) := by decide +kernel
theorem dX8_hiddenBy_25 : decode cX8_hiddenBy 25 = .ok (.ifCond .eq 7, 3) := by decide +kernel
theorem dX8_hiddenBy_32 : decode cX8_hiddenBy 32 = .ok (.aload_n 0, 1) := by decide +kernel
theorem dX8_hiddenBy_33 : decode cX8_hiddenBy 33 = .ok (.getfield 28, 3) := by decide +kernel
theorem dX8_hiddenBy_36 : decode cX8_hiddenBy 36 = .ok (.iload_n 1, 1) := by decide +kernel
theorem dX8_hiddenBy_37 : decode cX8_hiddenBy 37 = .ok (.iload_n 2, 1) := by decide +kernel
theorem dX8_hiddenBy_38 : decode cX8_hiddenBy 38 = .ok (.invokevirtual 304, 3) := by decide +kernel
theorem dX8_hiddenBy_41 : decode cX8_hiddenBy 41 = .ok (.ireturn, 1) := by decide +kernel
theorem dX8_hiddenBy_28 : decode cX8_hiddenBy 28 = .ok (.iconst 0, 1) := by decide +kernel
theorem dX8_hiddenBy_29 : decode cX8_hiddenBy 29 = .ok (.goto 12, 3) := by decide +kernel
theorem dX8_needPlace_0 : decode cX8_needPlace 0 = .ok (.iload_n 0, 1) := by decide +kernel
theorem dX8_needPlace_1 : decode cX8_needPlace 1 = .ok (.ifCond .ne 14, 3) := by decide +kernel
theorem dX8_needPlace_15 : decode cX8_needPlace 15 = .ok (.return_, 1) := by decide +kernel
theorem dX8_code_0 : decode cX8_code 0 = .ok (.aload_n 0, 1) := by decide +kernel
theorem dX8_code_1 : decode cX8_code 1 = .ok (.iload_n 1, 1) := by decide +kernel
theorem dX8_code_2 : decode cX8_code 2 = .ok (.invokevirtual 87, 3) := by decide +kernel
theorem dX8_code_5 : decode cX8_code 5 = .ok (.aload_n 0, 1) := by decide +kernel
theorem dX8_code_6 : decode cX8_code 6 = .ok (.invokevirtual 146, 3) := by decide +kernel
theorem dX8_code_9 : decode cX8_code 9 = .ok (.iload_n 2, 1) := by decide +kernel
theorem dX8_code_10 : decode cX8_code 10 = .ok (.ifCond .lt 16, 3) := by decide +kernel
theorem dX8_code_26 : decode cX8_code 26 = .ok (.iconst 0, 1) := by decide +kernel
theorem dX8_code_13 : decode cX8_code 13 = .ok (.iload_n 2, 1) := by decide +kernel
theorem dX8_code_14 : decode cX8_code 14 = .ok (.aload_n 0, 1) := by decide +kernel
theorem dX8_code_15 : decode cX8_code 15 = .ok (.iload_n 1, 1) := by decide +kernel
theorem dX8_code_16 : decode cX8_code 16 = .ok (.invokevirtual 171, 3) := by decide +kernel
theorem dX8_code_19 : decode cX8_code 19 = .ok (.if_icmp .ge 7, 3) := by decide +kernel
theorem dX8_code_22 : decode cX8_code 22 = .ok (.iconst 1, 1) := by decide +kernel
theorem dX8_code_23 : decode cX8_code 23 = .ok (.goto 4, 3) := by decide +kernel
theorem dX8_code_27 : decode cX8_code 27 = .ok (.invokestatic 220, 3) := by decide +kernel
theorem dX8_code_30 : decode cX8_code 30 = .ok (.iload_n 3, 1) := by decide +kernel
theorem dX8_code_31 : decode cX8_code 31 = .ok (.ifCond .lt 12, 3) := by decide +kernel
theorem dX8_code_43 : decode cX8_code 43 = .ok (.iconst 0, 1) := by decide +kernel
theorem dX8_code_34 : decode cX8_code 34 = .ok (.iload_n 3, 1) := by decide +kernel
theorem dX8_code_35 : decode cX8_code 35 = .ok (.iconst 3, 1) := by decide +kernel
theorem dX8_code_36 : decode cX8_code 36 = .ok (.if_icmp .gt 7, 3) := by decide +kernel
theorem dX8_code_39 : decode cX8_code 39 = .ok (.iconst 1, 1) := by decide +kernel
theorem dX8_code_40 : decode cX8_code 40 = .ok (.goto 4, 3) := by decide +kernel
theorem dX8_code_44 : decode cX8_code 44 = .ok (.invokestatic 95, 3) := by decide +kernel
theorem dX8_code_47 : decode cX8_code 47 = .ok (.aload_n 0, 1) := by decide +kernel
theorem dX8_code_48 : decode cX8_code 48 = .ok (.getfield 44, 3) := by decide +kernel
theorem dX8_code_51 : decode cX8_code 51 = .ok (.getfield 235, 3) := by decide +kernel
theorem dX8_code_54 : decode cX8_code 54 = .ok (.iload_n 1, 1) := by decide +kernel
theorem dX8_code_55 : decode cX8_code 55 = .ok (.iaload, 1) := by decide +kernel
theorem dX8_code_56 : decode cX8_code 56 = .ok (.iload_n 2, 1) := by decide +kernel
theorem dX8_code_57 : decode cX8_code 57 = .ok (.iadd, 1) := by decide +kernel
theorem dX8_code_58 : decode cX8_code 58 = .ok (.istore 4, 2) := by decide +kernel
theorem dX8_code_60 : decode cX8_code 60 = .ok (.iload_n 3, 1) := by decide +kernel
theorem dX8_code_61 : decode cX8_code 61 = .ok (.tableswitch 60 0 2 #[27, 38, 49], 27) := by decide +kernel
theorem dX8_code_88 : decode cX8_code 88 = .ok (.aload_n 0, 1) := by decide +kernel
theorem dX8_code_89 : decode cX8_code 89 = .ok (.getfield 44, 3) := by decide +kernel
theorem dX8_code_92 : decode cX8_code 92 = .ok (.getfield 238, 3) := by decide +kernel
theorem dX8_code_95 : decode cX8_code 95 = .ok (.iload 4, 2) := by decide +kernel
theorem dX8_code_97 : decode cX8_code 97 = .ok (.iaload, 1) := by decide +kernel
theorem dX8_code_98 : decode cX8_code 98 = .ok (.ireturn, 1) := by decide +kernel
theorem dX8_code_99 : decode cX8_code 99 = .ok (.aload_n 0, 1) := by decide +kernel
theorem dX8_code_100 : decode cX8_code 100 = .ok (.getfield 44, 3) := by decide +kernel
theorem dX8_code_103 : decode cX8_code 103 = .ok (.getfield 241, 3) := by decide +kernel
theorem dX8_code_106 : decode cX8_code 106 = .ok (.iload 4, 2) := by decide +kernel
theorem dX8_code_108 : decode cX8_code 108 = .ok (.iaload, 1) := by decide +kernel
theorem dX8_code_109 : decode cX8_code 109 = .ok (.ireturn, 1) := by decide +kernel
theorem dX8_code_110 : decode cX8_code 110 = .ok (.aload_n 0, 1) := by decide +kernel
theorem dX8_code_111 : decode cX8_code 111 = .ok (.getfield 44, 3) := by decide +kernel
theorem dX8_code_114 : decode cX8_code 114 = .ok (.getfield 244, 3) := by decide +kernel
theorem dX8_code_117 : decode cX8_code 117 = .ok (.iload 4, 2) := by decide +kernel
theorem dX8_code_119 : decode cX8_code 119 = .ok (.iaload, 1) := by decide +kernel
theorem dX8_code_120 : decode cX8_code 120 = .ok (.ireturn, 1) := by decide +kernel
theorem dX8_code_121 : decode cX8_code 121 = .ok (.aload_n 0, 1) := by decide +kernel
theorem dX8_code_122 : decode cX8_code 122 = .ok (.getfield 44, 3) := by decide +kernel
theorem dX8_code_125 : decode cX8_code 125 = .ok (.getfield 247, 3) := by decide +kernel
theorem dX8_code_128 : decode cX8_code 128 = .ok (.iload 4, 2) := by decide +kernel
theorem dX8_code_130 : decode cX8_code 130 = .ok (.iaload, 1) := by decide +kernel
theorem dX8_code_131 : decode cX8_code 131 = .ok (.ireturn, 1) := by decide +kernel
theorem dX5_has_0 : decode cX5_has 0 = .ok (.iload_n 1, 1) := by decide +kernel
theorem dX5_has_1 : decode cX5_has 1 = .ok (.ifCond .lt 15, 3) := by decide +kernel
theorem dX5_has_16 : decode cX5_has 16 = .ok (.iconst 0, 1) := by decide +kernel
theorem dX5_has_17 : decode cX5_has 17 = .ok (.ireturn, 1) := by decide +kernel
theorem dX5_has_4 : decode cX5_has 4 = .ok (.iload_n 1, 1) := by decide +kernel
theorem dX5_has_5 : decode cX5_has 5 = .ok (.aload_n 0, 1) := by decide +kernel
theorem dX5_has_6 : decode cX5_has 6 = .ok (.getfield 9, 3) := by decide +kernel
theorem dX5_has_9 : decode cX5_has 9 = .ok (.if_icmp .ge 7, 3) := by decide +kernel
theorem dX5_has_12 : decode cX5_has 12 = .ok (.iconst 1, 1) := by decide +kernel
theorem dX5_has_13 : decode cX5_has 13 = .ok (.goto 4, 3) := by decide +kernel
theorem dX8_needNode_0 : decode cX8_needNode 0 = .ok (.aload_n 0, 1) := by decide +kernel
theorem dX8_needNode_1 : decode cX8_needNode 1 = .ok (.getfield 19, 3) := by decide +kernel
theorem dX8_needNode_4 : decode cX8_needNode 4 = .ok (.iload_n 1, 1) := by decide +kernel
theorem dX8_needNode_5 : decode cX8_needNode 5 = .ok (.invokevirtual 361, 3) := by decide +kernel
theorem dX8_needNode_8 : decode cX8_needNode 8 = .ok (.ifCond .ne 14, 3) := by decide +kernel
theorem dX8_needNode_22 : decode cX8_needNode 22 = .ok (.return_, 1) := by decide +kernel
theorem dX8_ofNode_0 : decode cX8_ofNode 0 = .ok (.aload_n 0, 1) := by decide +kernel
theorem dX8_ofNode_1 : decode cX8_ofNode 1 = .ok (.iload_n 1, 1) := by decide +kernel
theorem dX8_ofNode_2 : decode cX8_ofNode 2 = .ok (.invokevirtual 183, 3) := by decide +kernel
theorem dX8_ofNode_5 : decode cX8_ofNode 5 = .ok (.iload_n 2, 1) := by decide +kernel
theorem dX8_ofNode_6 : decode cX8_ofNode 6 = .ok (.ifCond .lt 13, 3) := by decide +kernel
theorem dX8_ofNode_19 : decode cX8_ofNode 19 = .ok (.iconst 0, 1) := by decide +kernel
theorem dX8_ofNode_9 : decode cX8_ofNode 9 = .ok (.iload_n 2, 1) := by decide +kernel
theorem dX8_ofNode_10 : decode cX8_ofNode 10 = .ok (.bipush 7, 2) := by decide +kernel
theorem dX8_ofNode_12 : decode cX8_ofNode 12 = .ok (.if_icmp .gt 7, 3) := by decide +kernel
theorem dX8_ofNode_15 : decode cX8_ofNode 15 = .ok (.iconst 1, 1) := by decide +kernel
theorem dX8_ofNode_16 : decode cX8_ofNode 16 = .ok (.goto 4, 3) := by decide +kernel
theorem dX8_ofNode_20 : decode cX8_ofNode 20 = .ok (.invokestatic 95, 3) := by decide +kernel
theorem dX8_ofNode_23 : decode cX8_ofNode 23 = .ok (.aload_n 0, 1) := by decide +kernel
theorem dX8_ofNode_24 : decode cX8_ofNode 24 = .ok (.invokevirtual 146, 3) := by decide +kernel
theorem dX8_ofNode_27 : decode cX8_ofNode 27 = .ok (.iload_n 2, 1) := by decide +kernel
theorem dX8_ofNode_28 : decode cX8_ofNode 28 = .ok (.tableswitch 130 0 6 #[44, 54, 64, 74, 84, 94, 112], 44) := by decide +kernel
theorem dX8_ofNode_72 : decode cX8_ofNode 72 = .ok (.aload_n 0, 1) := by decide +kernel
theorem dX8_ofNode_73 : decode cX8_ofNode 73 = .ok (.getfield 19, 3) := by decide +kernel
theorem dX8_ofNode_76 : decode cX8_ofNode 76 = .ok (.getfield 195, 3) := by decide +kernel
theorem dX8_ofNode_79 : decode cX8_ofNode 79 = .ok (.iload_n 1, 1) := by decide +kernel
theorem dX8_ofNode_80 : decode cX8_ofNode 80 = .ok (.iaload, 1) := by decide +kernel
theorem dX8_ofNode_81 : decode cX8_ofNode 81 = .ok (.ireturn, 1) := by decide +kernel
theorem dX8_ofNode_82 : decode cX8_ofNode 82 = .ok (.aload_n 0, 1) := by decide +kernel
theorem dX8_ofNode_83 : decode cX8_ofNode 83 = .ok (.getfield 19, 3) := by decide +kernel
theorem dX8_ofNode_86 : decode cX8_ofNode 86 = .ok (.getfield 198, 3) := by decide +kernel
theorem dX8_ofNode_89 : decode cX8_ofNode 89 = .ok (.iload_n 1, 1) := by decide +kernel
theorem dX8_ofNode_90 : decode cX8_ofNode 90 = .ok (.iaload, 1) := by decide +kernel
theorem dX8_ofNode_91 : decode cX8_ofNode 91 = .ok (.ireturn, 1) := by decide +kernel
theorem dX8_ofNode_92 : decode cX8_ofNode 92 = .ok (.aload_n 0, 1) := by decide +kernel
theorem dX8_ofNode_93 : decode cX8_ofNode 93 = .ok (.getfield 19, 3) := by decide +kernel
theorem dX8_ofNode_96 : decode cX8_ofNode 96 = .ok (.getfield 201, 3) := by decide +kernel
theorem dX8_ofNode_99 : decode cX8_ofNode 99 = .ok (.iload_n 1, 1) := by decide +kernel
theorem dX8_ofNode_100 : decode cX8_ofNode 100 = .ok (.iaload, 1) := by decide +kernel
theorem dX8_ofNode_101 : decode cX8_ofNode 101 = .ok (.ireturn, 1) := by decide +kernel
theorem dX8_ofNode_102 : decode cX8_ofNode 102 = .ok (.aload_n 0, 1) := by decide +kernel
theorem dX8_ofNode_103 : decode cX8_ofNode 103 = .ok (.getfield 19, 3) := by decide +kernel
theorem dX8_ofNode_106 : decode cX8_ofNode 106 = .ok (.getfield 204, 3) := by decide +kernel
theorem dX8_ofNode_109 : decode cX8_ofNode 109 = .ok (.iload_n 1, 1) := by decide +kernel
theorem dX8_ofNode_110 : decode cX8_ofNode 110 = .ok (.iaload, 1) := by decide +kernel
theorem dX8_ofNode_111 : decode cX8_ofNode 111 = .ok (.ireturn, 1) := by decide +kernel
theorem dX8_ofNode_112 : decode cX8_ofNode 112 = .ok (.aload_n 0, 1) := by decide +kernel
theorem dX8_ofNode_113 : decode cX8_ofNode 113 = .ok (.getfield 28, 3) := by decide +kernel
theorem dX8_ofNode_116 : decode cX8_ofNode 116 = .ok (.getfield 207, 3) := by decide +kernel
theorem dX8_ofNode_119 : decode cX8_ofNode 119 = .ok (.iload_n 1, 1) := by decide +kernel
theorem dX8_ofNode_120 : decode cX8_ofNode 120 = .ok (.iaload, 1) := by decide +kernel
theorem dX8_ofNode_121 : decode cX8_ofNode 121 = .ok (.ireturn, 1) := by decide +kernel
theorem dX8_ofNode_122 : decode cX8_ofNode 122 = .ok (.aload_n 0, 1) := by decide +kernel
theorem dX8_ofNode_123 : decode cX8_ofNode 123 = .ok (.getfield 28, 3) := by decide +kernel
theorem dX8_ofNode_126 : decode cX8_ofNode 126 = .ok (.getfield 210, 3) := by decide +kernel
theorem dX8_ofNode_129 : decode cX8_ofNode 129 = .ok (.iload_n 1, 1) := by decide +kernel
theorem dX8_ofNode_130 : decode cX8_ofNode 130 = .ok (.baload, 1) := by decide +kernel
theorem dX8_ofNode_131 : decode cX8_ofNode 131 = .ok (.ifCond .eq 7, 3) := by decide +kernel
theorem dX8_ofNode_138 : decode cX8_ofNode 138 = .ok (.iconst 0, 1) := by decide +kernel
theorem dX8_ofNode_139 : decode cX8_ofNode 139 = .ok (.ireturn, 1) := by decide +kernel
theorem dX8_ofNode_134 : decode cX8_ofNode 134 = .ok (.iconst 1, 1) := by decide +kernel
theorem dX8_ofNode_135 : decode cX8_ofNode 135 = .ok (.goto 4, 3) := by decide +kernel
theorem dX8_ofNode_140 : decode cX8_ofNode 140 = .ok (.aload_n 0, 1) := by decide +kernel
theorem dX8_ofNode_141 : decode cX8_ofNode 141 = .ok (.getfield 28, 3) := by decide +kernel
theorem dX8_ofNode_144 : decode cX8_ofNode 144 = .ok (.getfield 213, 3) := by decide +kernel
theorem dX8_ofNode_147 : decode cX8_ofNode 147 = .ok (.iload_n 1, 1) := by decide +kernel
theorem dX8_ofNode_148 : decode cX8_ofNode 148 = .ok (.baload, 1) := by decide +kernel
theorem dX8_ofNode_149 : decode cX8_ofNode 149 = .ok (.ifCond .eq 7, 3) := by decide +kernel
theorem dX8_ofNode_156 : decode cX8_ofNode 156 = .ok (.iconst 0, 1) := by decide +kernel
theorem dX8_ofNode_157 : decode cX8_ofNode 157 = .ok (.ireturn, 1) := by decide +kernel
theorem dX8_ofNode_152 : decode cX8_ofNode 152 = .ok (.iconst 1, 1) := by decide +kernel
theorem dX8_ofNode_153 : decode cX8_ofNode 153 = .ok (.goto 4, 3) := by decide +kernel
theorem dX8_ofNode_158 : decode cX8_ofNode 158 = .ok (.aload_n 0, 1) := by decide +kernel
theorem dX8_ofNode_159 : decode cX8_ofNode 159 = .ok (.getfield 28, 3) := by decide +kernel
theorem dX8_ofNode_162 : decode cX8_ofNode 162 = .ok (.getfield 216, 3) := by decide +kernel
theorem dX8_ofNode_165 : decode cX8_ofNode 165 = .ok (.iload_n 1, 1) := by decide +kernel
theorem dX8_ofNode_166 : decode cX8_ofNode 166 = .ok (.iaload, 1) := by decide +kernel
theorem dX8_ofNode_167 : decode cX8_ofNode 167 = .ok (.ireturn, 1) := by decide +kernel
theorem dX8_fault_0 : decode cX8_fault 0 = .ok (.aload_n 0, 1) := by decide +kernel
theorem dX8_fault_1 : decode cX8_fault 1 = .ok (.invokevirtual 146, 3) := by decide +kernel
theorem dX8_fault_4 : decode cX8_fault 4 = .ok (.iload_n 1, 1) := by decide +kernel
theorem dX8_fault_5 : decode cX8_fault 5 = .ok (.ifCond .lt 18, 3) := by decide +kernel
theorem dX8_fault_23 : decode cX8_fault 23 = .ok (.iconst 0, 1) := by decide +kernel
theorem dX8_fault_8 : decode cX8_fault 8 = .ok (.iload_n 1, 1) := by decide +kernel
theorem dX8_fault_9 : decode cX8_fault 9 = .ok (.aload_n 0, 1) := by decide +kernel
theorem dX8_fault_10 : decode cX8_fault 10 = .ok (.getfield 37, 3) := by decide +kernel
theorem dX8_fault_13 : decode cX8_fault 13 = .ok (.getfield 219, 3) := by decide +kernel
theorem dX8_fault_16 : decode cX8_fault 16 = .ok (.if_icmp .ge 7, 3) := by decide +kernel
theorem dX8_fault_19 : decode cX8_fault 19 = .ok (.iconst 1, 1) := by decide +kernel
theorem dX8_fault_20 : decode cX8_fault 20 = .ok (.goto 4, 3) := by decide +kernel
theorem dX8_fault_24 : decode cX8_fault 24 = .ok (.invokestatic 220, 3) := by decide +kernel
theorem dX8_fault_27 : decode cX8_fault 27 = .ok (.iload_n 2, 1) := by decide +kernel
theorem dX8_fault_28 : decode cX8_fault 28 = .ok (.ifCond .lt 12, 3) := by decide +kernel
