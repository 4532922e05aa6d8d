theorem dX8_wouldRun_30 : decode cX8_wouldRun 30 = .ok (.aload_n 0, 1) := by decide +kernel
theorem dX8_wouldRun_31 : decode cX8_wouldRun 31 = .ok (.getfield 37, 3) := by decide +kernel
theorem dX8_wouldRun_34 : decode cX8_wouldRun 34 = .ok (.getfield 219, 3) := by decide +kernel
theorem dX8_wouldRun_37 : decode cX8_wouldRun 37 = .ok (.ifCond .ne 7, 3) := by decide +kernel
theorem dX8_wouldRun_44 : decode cX8_wouldRun 44 = .ok (.iconst 0, 1) := by decide +kernel
theorem dX8_wouldRun_40 : decode cX8_wouldRun 40 = .ok (.iconst 1, 1) := by decide +kernel
theorem dX8_wouldRun_41 : decode cX8_wouldRun 41 = .ok (.goto 4, 3) := by decide +kernel
theorem dX8_wouldRun_45 : decode cX8_wouldRun 45 = .ok (.invokestatic 106, 3) := by decide +kernel
theorem dX8_wouldRun_48 : decode cX8_wouldRun 48 = .ok (.aload_n 0, 1) := by decide +kernel
theorem dX8_wouldRun_49 : decode cX8_wouldRun 49 = .ok (.getfield 56, 3) := by decide +kernel
theorem dX8_wouldRun_52 : decode cX8_wouldRun 52 = .ok (.aload_n 0, 1) := by decide +kernel
theorem dX8_wouldRun_53 : decode cX8_wouldRun 53 = .ok (.getfield 74, 3) := by decide +kernel
theorem dX8_wouldRun_56 : decode cX8_wouldRun 56 = .ok (.iload_n 1, 1) := by decide +kernel
theorem dX8_wouldRun_57 : decode cX8_wouldRun 57 = .ok (.iload_n 2, 1) := by decide +kernel
theorem dX8_wouldRun_58 : decode cX8_wouldRun 58 = .ok (.aload_n 0, 1) := by decide +kernel
theorem dX8_wouldRun_59 : decode cX8_wouldRun 59 = .ok (.getfield 67, 3) := by decide +kernel
theorem dX8_wouldRun_62 : decode cX8_wouldRun 62 = .ok (.invokevirtual 253, 3) := by decide +kernel
theorem dX8_wouldRun_65 : decode cX8_wouldRun 65 = .ok (.aload_n 0, 1) := by decide +kernel
theorem dX8_wouldRun_66 : decode cX8_wouldRun 66 = .ok (.getfield 67, 3) := by decide +kernel
theorem dX8_wouldRun_69 : decode cX8_wouldRun 69 = .ok (.iload_n 3, 1) := by decide +kernel
theorem dX8_wouldRun_70 : decode cX8_wouldRun 70 = .ok (.invokevirtual 260, 3) := by decide +kernel
theorem dX8_wouldRun_73 : decode cX8_wouldRun 73 = .ok (.ireturn, 1) := by decide +kernel
theorem dX8_isPasses_0 : decode cX8_isPasses 0 = .ok (.iload_n 0, 1) := by decide +kernel
theorem dX8_isPasses_1 : decode cX8_isPasses 1 = .ok (.ifCond .lt 13, 3) := by decide +kernel
theorem dX8_isPasses_14 : decode cX8_isPasses 14 = .ok (.iconst 0, 1) := by decide +kernel
theorem dX8_isPasses_15 : decode cX8_isPasses 15 = .ok (.ireturn, 1) := by decide +kernel
theorem dX8_isPasses_4 : decode cX8_isPasses 4 = .ok (.iload_n 0, 1) := by decide +kernel
theorem dX8_isPasses_5 : decode cX8_isPasses 5 = .ok (.bipush 7, 2) := by decide +kernel
theorem dX8_isPasses_7 : decode cX8_isPasses 7 = .ok (.if_icmp .gt 7, 3) := by decide +kernel
theorem dX8_isPasses_10 : decode cX8_isPasses 10 = .ok (.iconst 1, 1) := by decide +kernel
theorem dX8_isPasses_11 : decode cX8_isPasses 11 = .ok (.goto 4, 3) := by decide +kernel
theorem dX8_with_0 : decode cX8_with 0 = .ok (.iload_n 1, 1) := by decide +kernel
theorem dX8_with_1 : decode cX8_with 1 = .ok (.invokestatic 232, 3) := by decide +kernel
theorem dX8_with_4 : decode cX8_with 4 = .ok (.ifCond .eq 16, 3) := by decide +kernel
theorem dX8_with_20 : decode cX8_with 20 = .ok (.iconst 0, 1) := by decide +kernel
theorem dX8_with_7 : decode cX8_with 7 = .ok (.iload_n 2, 1) := by decide +kernel
theorem dX8_with_8 : decode cX8_with 8 = .ok (.ifCond .lt 12, 3) := by decide +kernel
theorem dX8_with_11 : decode cX8_with 11 = .ok (.iload_n 2, 1) := by decide +kernel
theorem dX8_with_12 : decode cX8_with 12 = .ok (.iconst 2, 1) := by decide +kernel
theorem dX8_with_13 : decode cX8_with 13 = .ok (.if_icmp .gt 7, 3) := by decide +kernel
theorem dX8_with_16 : decode cX8_with 16 = .ok (.iconst 1, 1) := by decide +kernel
theorem dX8_with_17 : decode cX8_with 17 = .ok (.goto 4, 3) := by decide +kernel
theorem dX8_with_21 : decode cX8_with 21 = .ok (.invokestatic 95, 3) := by decide +kernel
theorem dX8_with_24 : decode cX8_with 24 = .ok (.aload_n 0, 1) := by decide +kernel
theorem dX8_with_25 : decode cX8_with 25 = .ok (.invokevirtual 146, 3) := by decide +kernel
theorem dX8_with_28 : decode cX8_with 28 = .ok (.aload_n 0, 1) := by decide +kernel
theorem dX8_with_29 : decode cX8_with 29 = .ok (.getfield 37, 3) := by decide +kernel
theorem dX8_with_32 : decode cX8_with 32 = .ok (.getfield 219, 3) := by decide +kernel
theorem dX8_with_35 : decode cX8_with 35 = .ok (.ifCond .ne 7, 3) := by decide +kernel
theorem dX8_with_42 : decode cX8_with 42 = .ok (.iconst 0, 1) := by decide +kernel
theorem dX8_with_38 : decode cX8_with 38 = .ok (.iconst 1, 1) := by decide +kernel
theorem dX8_with_39 : decode cX8_with 39 = .ok (.goto 4, 3) := by decide +kernel
theorem dX8_with_43 : decode cX8_with 43 = .ok (.invokestatic 106, 3) := by decide +kernel
theorem dX8_with_46 : decode cX8_with 46 = .ok (.iload_n 2, 1) := by decide +kernel
theorem dX8_with_47 : decode cX8_with 47 = .ok (.ifCond .ne 9, 3) := by decide +kernel
theorem dX8_with_56 : decode cX8_with 56 = .ok (.aload_n 0, 1) := by decide +kernel
theorem dX8_with_57 : decode cX8_with 57 = .ok (.getfield 56, 3) := by decide +kernel
theorem dX8_with_60 : decode cX8_with 60 = .ok (.iload_n 1, 1) := by decide +kernel
theorem dX8_with_61 : decode cX8_with 61 = .ok (.aload_n 0, 1) := by decide +kernel
theorem dX8_with_62 : decode cX8_with 62 = .ok (.getfield 78, 3) := by decide +kernel
theorem dX8_with_65 : decode cX8_with 65 = .ok (.aload_n 0, 1) := by decide +kernel
theorem dX8_with_66 : decode cX8_with 66 = .ok (.getfield 81, 3) := by decide +kernel
theorem dX8_with_69 : decode cX8_with 69 = .ok (.aload_n 0, 1) := by decide +kernel
theorem dX8_with_70 : decode cX8_with 70 = .ok (.getfield 67, 3) := by decide +kernel
theorem dX8_with_50 : decode cX8_with 50 = .ok (.aload_n 0, 1) := by decide +kernel
theorem dX8_with_51 : decode cX8_with 51 = .ok (.iload_n 1, 1) := by decide +kernel
theorem dX8_with_52 : decode cX8_with 52 = .ok (.invokevirtual 295, 3) := by decide +kernel
theorem dX8_with_55 : decode cX8_with 55 = .ok (.ireturn, 1) := by decide +kernel
theorem dX5_isFree_0 : decode cX5_isFree 0 = .ok (.aload_n 0, 1) := by decide +kernel
theorem dX5_isFree_1 : decode cX5_isFree 1 = .ok (.getfield 28, 3) := by decide +kernel
theorem dX5_isFree_4 : decode cX5_isFree 4 = .ok (.iload_n 1, 1) := by decide +kernel
theorem dX5_isFree_5 : decode cX5_isFree 5 = .ok (.iaload, 1) := by decide +kernel
theorem dX5_isFree_6 : decode cX5_isFree 6 = .ok (.iconst (-1), 1) := by decide +kernel
theorem dX5_isFree_7 : decode cX5_isFree 7 = .ok (.if_icmp .ne 17, 3) := by decide +kernel
theorem dX5_isFree_24 : decode cX5_isFree 24 = .ok (.iconst 0, 1) := by decide +kernel
theorem dX5_isFree_25 : decode cX5_isFree 25 = .ok (.ireturn, 1) := by decide +kernel
theorem dX5_isFree_10 : decode cX5_isFree 10 = .ok (.aload_n 0, 1) := by decide +kernel
theorem dX5_isFree_11 : decode cX5_isFree 11 = .ok (.getfield 31, 3) := by decide +kernel
theorem dX5_isFree_14 : decode cX5_isFree 14 = .ok (.iload_n 1, 1) := by decide +kernel
theorem dX5_isFree_15 : decode cX5_isFree 15 = .ok (.iaload, 1) := by decide +kernel
theorem dX5_isFree_16 : decode cX5_isFree 16 = .ok (.iconst (-1), 1) := by decide +kernel
theorem dX5_isFree_17 : decode cX5_isFree 17 = .ok (.if_icmp .ne 7, 3) := by decide +kernel
theorem dX5_isFree_20 : decode cX5_isFree 20 = .ok (.iconst 1, 1) := by decide +kernel
theorem dX5_isFree_21 : decode cX5_isFree 21 = .ok (.goto 4, 3) := by decide +kernel
theorem dX5_isStatement_0 : decode cX5_isStatement 0 = .ok (.aload_n 0, 1) := by decide +kernel
theorem dX5_isStatement_1 : decode cX5_isStatement 1 = .ok (.getfield 15, 3) := by decide +kernel
theorem dX5_isStatement_4 : decode cX5_isStatement 4 = .ok (.iload_n 1, 1) := by decide +kernel
theorem dX5_isStatement_5 : decode cX5_isStatement 5 = .ok (.iaload, 1) := by decide +kernel
theorem dX5_isStatement_6 : decode cX5_isStatement 6 = .ok (.bipush 12, 2) := by decide +kernel
theorem dX5_isStatement_8 : decode cX5_isStatement 8 = .ok (.if_icmp .lt 7, 3) := by decide +kernel
theorem dX5_isStatement_15 : decode cX5_isStatement 15 = .ok (.iconst 0, 1) := by decide +kernel
theorem dX5_isStatement_16 : decode cX5_isStatement 16 = .ok (.ireturn, 1) := by decide +kernel
theorem dX5_isStatement_11 : decode cX5_isStatement 11 = .ok (.iconst 1, 1) := by decide +kernel
theorem dX5_isStatement_12 : decode cX5_isStatement 12 = .ok (.goto 4, 3) := by decide +kernel
theorem dX5_isPartFor_0 : decode cX5_isPartFor 0 = .ok (.aload_n 0, 1) := by decide +kernel
theorem dX5_isPartFor_1 : decode cX5_isPartFor 1 = .ok (.iload_n 2, 1) := by decide +kernel
theorem dX5_isPartFor_2 : decode cX5_isPartFor 2 = .ok (.invokevirtual 58, 3) := by decide +kernel
theorem dX5_isPartFor_5 : decode cX5_isPartFor 5 = .ok (.ifCond .eq 11, 3) := by decide +kernel
theorem dX5_isPartFor_16 : decode cX5_isPartFor 16 = .ok (.iconst 0, 1) := by decide +kernel
theorem dX5_isPartFor_17 : decode cX5_isPartFor 17 = .ok (.ireturn, 1) := by decide +kernel
theorem dX5_isPartFor_8 : decode cX5_isPartFor 8 = .ok (.aload_n 0, 1) := by decide +kernel
theorem dX5_isPartFor_9 : decode cX5_isPartFor 9 = .ok (.iload_n 2, 1) := by decide +kernel
theorem dX5_isPartFor_10 : decode cX5_isPartFor 10 = .ok (.invokevirtual 61, 3) := by decide +kernel
theorem dX5_isPartFor_13 : decode cX5_isPartFor 13 = .ok (.ifCond .ne 5, 3) := by decide +kernel
theorem dX5_isPartFor_18 : decode cX5_isPartFor 18 = .ok (.iload_n 1, 1) := by decide +kernel
theorem dX5_isPartFor_19 : decode cX5_isPartFor 19 = .ok (.tableswitch 119 4 9 #[37, 43, 43, 49, 66, 102], 37) := by decide +kernel
theorem dX5_isPartFor_56 : decode cX5_isPartFor 56 = .ok (.aload_n 0, 1) := by decide +kernel
theorem dX5_isPartFor_57 : decode cX5_isPartFor 57 = .ok (.iload_n 2, 1) := by decide +kernel
theorem dX5_isPartFor_58 : decode cX5_isPartFor 58 = .ok (.invokevirtual 64, 3) := by decide +kernel
theorem dX5_isPartFor_61 : decode cX5_isPartFor 61 = .ok (.ireturn, 1) := by decide +kernel
theorem dX5_isPartFor_62 : decode cX5_isPartFor 62 = .ok (.aload_n 0, 1) := by decide +kernel
theorem dX5_isPartFor_63 : decode cX5_isPartFor 63 = .ok (.iload_n 2, 1) := by decide +kernel
theorem dX5_isPartFor_64 : decode cX5_isPartFor 64 = .ok (.invokevirtual 67, 3) := by decide +kernel
theorem dX5_isPartFor_67 : decode cX5_isPartFor 67 = .ok (.ireturn, 1) := by decide +kernel
theorem dX5_isPartFor_68 : decode cX5_isPartFor 68 = .ok (.aload_n 0, 1) := by decide +kernel
theorem dX5_isPartFor_69 : decode cX5_isPartFor 69 = .ok (.getfield 15, 3) := by decide +kernel
theorem dX5_isPartFor_72 : decode cX5_isPartFor 72 = .ok (.iload_n 2, 1) := by decide +kernel
theorem dX5_isPartFor_73 : decode cX5_isPartFor 73 = .ok (.iaload, 1) := by decide +kernel
theorem dX5_isPartFor_74 : decode cX5_isPartFor 74 = .ok (.bipush 9, 2) := by decide +kernel
theorem dX5_isPartFor_76 : decode cX5_isPartFor 76 = .ok (.if_icmp .ne 7, 3) := by decide +kernel
theorem dX5_isPartFor_83 : decode cX5_isPartFor 83 = .ok (.iconst 0, 1) := by decide +kernel
theorem dX5_isPartFor_84 : decode cX5_isPartFor 84 = .ok (.ireturn, 1) := by decide +kernel
theorem dX5_isPartFor_79 : decode cX5_isPartFor 79 = .ok (.iconst 1, 1) := by decide +kernel
theorem dX5_isPartFor_80 : decode cX5_isPartFor 80 = .ok (.goto 4, 3) := by decide +kernel
theorem dX5_isPartFor_85 : decode cX5_isPartFor 85 = .ok (.aload_n 0, 1) := by decide +kernel
theorem dX5_isPartFor_86 : decode cX5_isPartFor 86 = .ok (.iload_n 2, 1) := by decide +kernel
theorem dX5_isPartFor_87 : decode cX5_isPartFor 87 = .ok (.invokevirtual 64, 3) := by decide +kernel
theorem dX5_isPartFor_90 : decode cX5_isPartFor 90 = .ok (.ifCond .ne 25, 3) := by decide +kernel
theorem dX5_isPartFor_115 : decode cX5_isPartFor 115 = .ok (.iconst 1, 1) := by decide +kernel
theorem dX5_isPartFor_116 : decode cX5_isPartFor 116 = .ok (.goto 4, 3) := by decide +kernel
theorem dX5_isPartFor_120 : decode cX5_isPartFor 120 = .ok (.ireturn, 1) := by decide +kernel
theorem dX5_isPartFor_93 : decode cX5_isPartFor 93 = .ok (.aload_n 0, 1) := by decide +kernel
theorem dX5_isPartFor_94 : decode cX5_isPartFor 94 = .ok (.getfield 15, 3) := by decide +kernel
theorem dX5_isPartFor_97 : decode cX5_isPartFor 97 = .ok (.iload_n 2, 1) := by decide +kernel
theorem dX5_isPartFor_98 : decode cX5_isPartFor 98 = .ok (.iaload, 1) := by decide +kernel
theorem dX5_isPartFor_99 : decode cX5_isPartFor 99 = .ok (.bipush 11, 2) := by decide +kernel
theorem dX5_isPartFor_101 : decode cX5_isPartFor 101 = .ok (.if_icmp .eq 14, 3) := by decide +kernel
theorem dX5_isPartFor_104 : decode cX5_isPartFor 104 = .ok (.aload_n 0, 1) := by decide +kernel
theorem dX5_isPartFor_105 : decode cX5_isPartFor 105 = .ok (.getfield 15, 3) := by decide +kernel
theorem dX5_isPartFor_108 : decode cX5_isPartFor 108 = .ok (.iload_n 2, 1) := by decide +kernel
theorem dX5_isPartFor_109 : decode cX5_isPartFor 109 = .ok (.iaload, 1) := by decide +kernel
theorem dX5_isPartFor_110 : decode cX5_isPartFor 110 = .ok (.bipush 10, 2) := by decide +kernel
theorem dX5_isPartFor_112 : decode cX5_isPartFor 112 = .ok (.if_icmp .ne 7, 3) := by decide +kernel
theorem dX5_isPartFor_119 : decode cX5_isPartFor 119 = .ok (.iconst 0, 1) := by decide +kernel
theorem dX5_isPartFor_121 : decode cX5_isPartFor 121 = .ok (.aload_n 0, 1) := by decide +kernel
theorem dX5_isPartFor_122 : decode cX5_isPartFor 122 = .ok (.getfield 15, 3) := by decide +kernel
theorem dX5_isPartFor_125 : decode cX5_isPartFor 125 = .ok (.iload_n 2, 1) := by decide +kernel
theorem dX5_isPartFor_126 : decode cX5_isPartFor 126 = .ok (.iaload, 1) := by decide +kernel
theorem dX5_isPartFor_127 : decode cX5_isPartFor 127 = .ok (.bipush 8, 2) := by decide +kernel
theorem dX5_isPartFor_129 : decode cX5_isPartFor 129 = .ok (.if_icmp .ne 7, 3) := by decide +kernel
theorem dX5_isPartFor_136 : decode cX5_isPartFor 136 = .ok (.iconst 0, 1) := by decide +kernel
theorem dX5_isPartFor_137 : decode cX5_isPartFor 137 = .ok (.ireturn, 1) := by decide +kernel
theorem dX5_isPartFor_132 : decode cX5_isPartFor 132 = .ok (.iconst 1, 1) := by decide +kernel
theorem dX5_isPartFor_133 : decode cX5_isPartFor 133 = .ok (.goto 4, 3) := by decide +kernel
theorem dX5_isPartFor_138 : decode cX5_isPartFor 138 = .ok (.aload_n 0, 1) := by decide +kernel
theorem dX5_isPartFor_139 : decode cX5_isPartFor 139 = .ok (.getfield 15, 3) := by decide +kernel
theorem dX5_isPartFor_142 : decode cX5_isPartFor 142 = .ok (.iload_n 2, 1) := by decide +kernel
theorem dX5_isPartFor_143 : decode cX5_isPartFor 143 = .ok (.iaload, 1) := by decide +kernel
theorem dX5_isPartFor_144 : decode cX5_isPartFor 144 = .ok (.bipush 10, 2) := by decide +kernel
theorem dX5_isPartFor_146 : decode cX5_isPartFor 146 = .ok (.if_icmp .ne 7, 3) := by decide +kernel
theorem dX5_isPartFor_153 : decode cX5_isPartFor 153 = .ok (.iconst 0, 1) := by decide +kernel
theorem dX5_isPartFor_154 : decode cX5_isPartFor 154 = .ok (.ireturn, 1) := by decide +kernel
theorem dX5_isPartFor_149 : decode cX5_isPartFor 149 = .ok (.iconst 1, 1) := by decide +kernel
theorem dX5_isPartFor_150 : decode cX5_isPartFor 150 = .ok (.goto 4, 3) := by decide +kernel
theorem dX5_fills_0 : decode cX5_fills 0 = .ok (.iload_n 1, 1) := by decide +kernel
theorem dX5_fills_1 : decode cX5_fills 1 = .ok (.tableswitch 118 0 7 #[47, 57, 77, 82, 118, 118, 98, 98], 47) := by decide +kernel
theorem dX5_fills_48 : decode cX5_fills 48 = .ok (.iload_n 2, 1) := by decide +kernel
theorem dX5_fills_49 : decode cX5_fills 49 = .ok (.ifCond .ne 7, 3) := by decide +kernel
theorem dX5_fills_56 : decode cX5_fills 56 = .ok (.iconst 0, 1) := by decide +kernel
theorem dX5_fills_57 : decode cX5_fills 57 = .ok (.ireturn, 1) := by decide +kernel
theorem dX5_fills_52 : decode cX5_fills 52 = .ok (.iconst 1, 1) := by decide +kernel
theorem dX5_fills_53 : decode cX5_fills 53 = .ok (.goto 4, 3) := by decide +kernel
theorem dX5_fills_58 : decode cX5_fills 58 = .ok (.iload_n 2, 1) := by decide +kernel
theorem dX5_fills_59 : decode cX5_fills 59 = .ok (.sipush (-999), 3) := by decide +kernel
theorem dX5_fills_62 : decode cX5_fills 62 = .ok (.if_icmp .lt 14, 3) := by decide +kernel
theorem dX5_fills_76 : decode cX5_fills 76 = .ok (.iconst 0, 1) := by decide +kernel
theorem dX5_fills_77 : decode cX5_fills 77 = .ok (.ireturn, 1) := by decide +kernel
theorem dX5_fills_65 : decode cX5_fills 65 = .ok (.iload_n 2, 1) := by decide +kernel
theorem dX5_fills_66 : decode cX5_fills 66 = .ok (.sipush 999, 3) := by decide +kernel
theorem dX5_fills_69 : decode cX5_fills 69 = .ok (.if_icmp .gt 7, 3) := by decide +kernel
theorem dX5_fills_72 : decode cX5_fills 72 = .ok (.iconst 1, 1) := by decide +kernel
theorem dX5_fills_73 : decode cX5_fills 73 = .ok (.goto 4, 3) := by decide +kernel
theorem dX5_fills_78 : decode cX5_fills 78 = .ok (.iload_n 2, 1) := by decide +kernel
theorem dX5_fills_79 : decode cX5_fills 79 = .ok (.invokestatic 51, 3) := by decide +kernel
theorem dX5_fills_82 : decode cX5_fills 82 = .ok (.ireturn, 1) := by decide +kernel
theorem dX5_fills_83 : decode cX5_fills 83 = .ok (.iload_n 2, 1) := by decide +kernel
theorem dX5_fills_84 : decode cX5_fills 84 = .ok (.ifCond .lt 13, 3) := by decide +kernel
theorem dX5_fills_97 : decode cX5_fills 97 = .ok (.iconst 0, 1) := by decide +kernel
theorem dX5_fills_98 : decode cX5_fills 98 = .ok (.ireturn, 1) := by decide +kernel
theorem dX5_fills_87 : decode cX5_fills 87 = .ok (.iload_n 2, 1) := by decide +kernel
theorem dX5_fills_88 : decode cX5_fills 88 = .ok (.bipush 10, 2) := by decide +kernel
theorem dX5_fills_90 : decode cX5_fills 90 = .ok (.if_icmp .ge 7, 3) := by decide +kernel
theorem dX5_fills_93 : decode cX5_fills 93 = .ok (.iconst 1, 1) := by decide +kernel
theorem dX5_fills_94 : decode cX5_fills 94 = .ok (.goto 4, 3) := by decide +kernel
theorem dX5_fills_119 : decode cX5_fills 119 = .ok (.aload_n 0, 1) := by decide +kernel
theorem dX5_fills_120 : decode cX5_fills 120 = .ok (.iload_n 1, 1) := by decide +kernel
theorem dX5_fills_121 : decode cX5_fills 121 = .ok (.iload_n 2, 1) := by decide +kernel
theorem dX5_fills_122 : decode cX5_fills 122 = .ok (.invokevirtual 55, 3) := by decide +kernel
theorem dX5_fills_125 : decode cX5_fills 125 = .ok (.ireturn, 1) := by decide +kernel
theorem dX5_fills_99 : decode cX5_fills 99 = .ok (.iload_n 2, 1) := by decide +kernel
theorem dX5_fills_100 : decode cX5_fills 100 = .ok (.iconst (-1), 1) := by decide +kernel
theorem dX5_fills_101 : decode cX5_fills 101 = .ok (.if_icmp .eq 12, 3) := by decide +kernel
theorem dX5_fills_113 : decode cX5_fills 113 = .ok (.iconst 1, 1) := by decide +kernel
theorem dX5_fills_114 : decode cX5_fills 114 = .ok (.goto 4, 3) := by decide +kernel
theorem dX5_fills_118 : decode cX5_fills 118 = .ok (.ireturn, 1) := by decide +kernel
theorem dX5_fills_104 : decode cX5_fills 104 = .ok (.aload_n 0, 1) := by decide +kernel
theorem dX5_fills_105 : decode cX5_fills 105 = .ok (.iload_n 1, 1) := by decide +kernel
theorem dX5_fills_106 : decode cX5_fills 106 = .ok (.iload_n 2, 1) := by decide +kernel
theorem dX5_fills_107 : decode cX5_fills 107 = .ok (.invokevirtual 55, 3) := by decide +kernel
theorem dX5_fills_110 : decode cX5_fills 110 = .ok (.ifCond .eq 7, 3) := by decide +kernel
theorem dX5_fills_117 : decode cX5_fills 117 = .ok (.iconst 0, 1) := by decide +kernel
theorem dX5_isSamePart_0 : decode cX5_isSamePart 0 = .ok (.iload_n 0, 1) := by decide +kernel
theorem dX5_isSamePart_1 : decode cX5_isSamePart 1 = .ok (.iconst 4, 1) := by decide +kernel
theorem dX5_isSamePart_2 : decode cX5_isSamePart 2 = .ok (.if_icmp .lt 22, 3) := by decide +kernel
theorem dX5_isSamePart_24 : decode cX5_isSamePart 24 = .ok (.iconst 0, 1) := by decide +kernel
theorem dX5_isSamePart_25 : decode cX5_isSamePart 25 = .ok (.ireturn, 1) := by decide +kernel
theorem dX5_isSamePart_5 : decode cX5_isSamePart 5 = .ok (.iload_n 2, 1) := by decide +kernel
theorem dX5_isSamePart_6 : decode cX5_isSamePart 6 = .ok (.iconst 4, 1) := by decide +kernel
theorem dX5_isSamePart_7 : decode cX5_isSamePart 7 = .ok (.if_icmp .lt 17, 3) := by decide +kernel
theorem dX5_isSamePart_10 : decode cX5_isSamePart 10 = .ok (.iload_n 1, 1) := by decide +kernel
theorem dX5_isSamePart_11 : decode cX5_isSamePart 11 = .ok (.iload_n 3, 1) := by decide +kernel
theorem dX5_isSamePart_12 : decode cX5_isSamePart 12 = .ok (.if_icmp .ne 12, 3) := by decide +kernel
theorem dX5_isSamePart_15 : decode cX5_isSamePart 15 = .ok (.iload_n 1, 1) := by decide +kernel
theorem dX5_isSamePart_16 : decode cX5_isSamePart 16 = .ok (.iconst (-1), 1) := by decide +kernel
theorem dX5_isSamePart_17 : decode cX5_isSamePart 17 = .ok (.if_icmp .eq 7, 3) := by decide +kernel
theorem dX5_isSamePart_20 : decode cX5_isSamePart 20 = .ok (.iconst 1, 1) := by decide +kernel
theorem dX5_isSamePart_21 : decode cX5_isSamePart 21 = .ok (.goto 4, 3) := by decide +kernel
theorem dX5_suits_0 : decode cX5_suits 0 = .ok (.iload_n 1, 1) := by decide +kernel
theorem dX5_suits_1 : decode cX5_suits 1 = .ok (.ifCond .lt 9, 3) := by decide +kernel
theorem dX5_suits_10 : decode cX5_suits 10 = .ok (.iconst 0, 1) := by decide +kernel
theorem dX5_suits_11 : decode cX5_suits 11 = .ok (.ireturn, 1) := by decide +kernel
theorem dX5_suits_4 : decode cX5_suits 4 = .ok (.iload_n 1, 1) := by decide +kernel
theorem dX5_suits_5 : decode cX5_suits 5 = .ok (.bipush 21, 2) := by decide +kernel
theorem dX5_suits_7 : decode cX5_suits 7 = .ok (.if_icmp .le 5, 3) := by decide +kernel
theorem dX5_suits_12 : decode cX5_suits 12 = .ok (.aload_n 0, 1) := by decide +kernel
theorem dX5_suits_13 : decode cX5_suits 13 = .ok (.getstatic 34, 3) := by decide +kernel
theorem dX5_suits_16 : decode cX5_suits 16 = .ok (.iload_n 1, 1) := by decide +kernel
theorem dX5_suits_17 : decode cX5_suits 17 = .ok (.iaload, 1) := by decide +kernel
theorem dX5_suits_18 : decode cX5_suits 18 = .ok (.iload_n 2, 1) := by decide +kernel
theorem dX5_suits_19 : decode cX5_suits 19 = .ok (.invokevirtual 43, 3) := by decide +kernel
theorem dX5_suits_22 : decode cX5_suits 22 = .ok (.ifCond .eq 90, 3) := by decide +kernel
theorem dX5_suits_112 : decode cX5_suits 112 = .ok (.iconst 0, 1) := by decide +kernel
theorem dX5_suits_113 : decode cX5_suits 113 = .ok (.ireturn, 1) := by decide +kernel
theorem dX5_suits_25 : decode cX5_suits 25 = .ok (.aload_n 0, 1) := by decide +kernel
theorem dX5_suits_26 : decode cX5_suits 26 = .ok (.getstatic 37, 3) := by decide +kernel
theorem dX5_suits_29 : decode cX5_suits 29 = .ok (.iload_n 1, 1) := by decide +kernel
theorem dX5_suits_30 : decode cX5_suits 30 = .ok (.iaload, 1) := by decide +kernel
theorem dX5_suits_31 : decode cX5_suits 31 = .ok (.iload_n 3, 1) := by decide +kernel
theorem dX5_suits_32 : decode cX5_suits 32 = .ok (.invokevirtual 43, 3) := by decide +kernel
theorem dX5_suits_35 : decode cX5_suits 35 = .ok (.ifCond .eq 77, 3) := by decide +kernel
theorem dX5_suits_38 : decode cX5_suits 38 = .ok (.aload_n 0, 1) := by decide +kernel
theorem dX5_suits_39 : decode cX5_suits 39 = .ok (.getstatic 40, 3) := by decide +kernel
theorem dX5_suits_42 : decode cX5_suits 42 = .ok (.iload_n 1, 1) := by decide +kernel
theorem dX5_suits_43 : decode cX5_suits 43 = .ok (.iaload, 1) := by decide +kernel
theorem dX5_suits_44 : decode cX5_suits 44 = .ok (.iload 4, 2) := by decide +kernel
theorem dX5_suits_46 : decode cX5_suits 46 = .ok (.invokevirtual 43, 3) := by decide +kernel
theorem dX5_suits_49 : decode cX5_suits 49 = .ok (.ifCond .eq 63, 3) := by decide +kernel
theorem dX5_suits_52 : decode cX5_suits 52 = .ok (.getstatic 34, 3) := by decide +kernel
theorem dX5_suits_55 : decode cX5_suits 55 = .ok (.iload_n 1, 1) := by decide +kernel
theorem dX5_suits_56 : decode cX5_suits 56 = .ok (.iaload, 1) := by decide +kernel
theorem dX5_suits_57 : decode cX5_suits 57 = .ok (.iload_n 2, 1) := by decide +kernel
theorem dX5_suits_58 : decode cX5_suits 58 = .ok (.getstatic 37, 3) := by decide +kernel
theorem dX5_suits_61 : decode cX5_suits 61 = .ok (.iload_n 1, 1) := by decide +kernel
theorem dX5_suits_62 : decode cX5_suits 62 = .ok (.iaload, 1) := by decide +kernel
theorem dX5_suits_63 : decode cX5_suits 63 = .ok (.iload_n 3, 1) := by decide +kernel
theorem dX5_suits_64 : decode cX5_suits 64 = .ok (.invokestatic 47, 3) := by decide +kernel
theorem dX5_suits_67 : decode cX5_suits 67 = .ok (.ifCond .ne 45, 3) := by decide +kernel
theorem dX5_suits_70 : decode cX5_suits 70 = .ok (.getstatic 34, 3) := by decide +kernel
theorem dX5_suits_73 : decode cX5_suits 73 = .ok (.iload_n 1, 1) := by decide +kernel
theorem dX5_suits_74 : decode cX5_suits 74 = .ok (.iaload, 1) := by decide +kernel
theorem dX5_suits_75 : decode cX5_suits 75 = .ok (.iload_n 2, 1) := by decide +kernel
theorem dX5_suits_76 : decode cX5_suits 76 = .ok (.getstatic 40, 3) := by decide +kernel
theorem dX5_suits_79 : decode cX5_suits 79 = .ok (.iload_n 1, 1) := by decide +kernel
theorem dX5_suits_80 : decode cX5_suits 80 = .ok (.iaload, 1) := by decide +kernel
theorem dX5_suits_81 : decode cX5_suits 81 = .ok (.iload 4, 2) := by decide +kernel
theorem dX5_suits_83 : decode cX5_suits 83 = .ok (.invokestatic 47, 3) := by decide +kernel
theorem dX5_suits_86 : decode cX5_suits 86 = .ok (.ifCond .ne 26, 3) := by decide +kernel
theorem dX5_suits_89 : decode cX5_suits 89 = .ok (.getstatic 37, 3) := by decide +kernel
theorem dX5_suits_92 : decode cX5_suits 92 = .ok (.iload_n 1, 1) := by decide +kernel
theorem dX5_suits_93 : decode cX5_suits 93 = .ok (.iaload, 1) := by decide +kernel
theorem dX5_suits_94 : decode cX5_suits 94 = .ok (.iload_n 3, 1) := by decide +kernel
theorem dX5_suits_95 : decode cX5_suits 95 = .ok (.getstatic 40, 3) := by decide +kernel
theorem dX5_suits_98 : decode cX5_suits 98 = .ok (.iload_n 1, 1) := by decide +kernel
theorem dX5_suits_99 : decode cX5_suits 99 = .ok (.iaload, 1) := by decide +kernel
theorem dX5_suits_100 : decode cX5_suits 100 = .ok (.iload 4, 2) := by decide +kernel
theorem dX5_suits_102 : decode cX5_suits 102 = .ok (.invokestatic 47, 3) := by decide +kernel
theorem dX5_suits_105 : decode cX5_suits 105 = .ok (.ifCond .ne 7, 3) := by decide +kernel
theorem dX5_suits_108 : decode cX5_suits 108 = .ok (.iconst 1, 1) := by decide +kernel
theorem dX5_suits_109 : decode cX5_suits 109 = .ok (.goto 4, 3) := by decide +kernel
theorem dX5_claim_0 : decode cX5_claim 0 = .ok (.iload_n 1, 1) := by decide +kernel
theorem dX5_claim_1 : decode cX5_claim 1 = .ok (.iconst (-1), 1) := by decide +kernel
theorem dX5_claim_2 : decode cX5_claim 2 = .ok (.if_icmp .eq 10, 3) := by decide +kernel
theorem dX5_claim_12 : decode cX5_claim 12 = .ok (.return_, 1) := by decide +kernel
theorem dX5_claim_5 : decode cX5_claim 5 = .ok (.aload_n 0, 1) := by decide +kernel
theorem dX5_claim_6 : decode cX5_claim 6 = .ok (.getfield 28, 3) := by decide +kernel
theorem dX5_claim_9 : decode cX5_claim 9 = .ok (.iload_n 1, 1) := by decide +kernel
theorem dX5_claim_10 : decode cX5_claim 10 = .ok (.iload_n 2, 1) := by decide +kernel
theorem dX5_claim_11 : decode cX5_claim 11 = .ok (.iastore, 1) := by decide +kernel
theorem dX5_add_0 : decode cX5_add 0 = .ok (.aload_n 0, 1) := by decide +kernel
theorem dX5_add_1 : decode cX5_add 1 = .ok (.getfield 9, 3) := by decide +kernel
theorem dX5_add_4 : decode cX5_add 4 = .ok (.istore 5, 2) := by decide +kernel
theorem dX5_add_6 : decode cX5_add 6 = .ok (.aload_n 0, 1) := by decide +kernel
theorem dX5_add_7 : decode cX5_add 7 = .ok (.dup, 1) := by decide +kernel
theorem dX5_add_8 : decode cX5_add 8 = .ok (.getfield 9, 3) := by decide +kernel
theorem dX5_add_11 : decode cX5_add 11 = .ok (.iconst 1, 1) := by decide +kernel
theorem dX5_add_12 : decode cX5_add 12 = .ok (.iadd, 1) := by decide +kernel
theorem dX5_add_13 : decode cX5_add 13 = .ok (.putfield 9, 3) := by decide +kernel
theorem dX5_add_16 : decode cX5_add 16 = .ok (.aload_n 0, 1) := by decide +kernel
theorem dX5_add_17 : decode cX5_add 17 = .ok (.getfield 15, 3) := by decide +kernel
theorem dX5_add_20 : decode cX5_add 20 = .ok (.iload 5, 2) := by decide +kernel
theorem dX5_add_22 : decode cX5_add 22 = .ok (.iload_n 1, 1) := by decide +kernel
theorem dX5_add_23 : decode cX5_add 23 = .ok (.iastore, 1) := by decide +kernel
theorem dX5_add_24 : decode cX5_add 24 = .ok (.aload_n 0, 1) := by decide +kernel
theorem dX5_add_25 : decode cX5_add 25 = .ok (.getfield 19, 3) := by decide +kernel
theorem dX5_add_28 : decode cX5_add 28 = .ok (.iload 5, 2) := by decide +kernel
theorem dX5_add_30 : decode cX5_add 30 = .ok (.iload_n 2, 1) := by decide +kernel
theorem dX5_add_31 : decode cX5_add 31 = .ok (.iastore, 1) := by decide +kernel
theorem dX5_add_32 : decode cX5_add 32 = .ok (.aload_n 0, 1) := by decide +kernel
theorem dX5_add_33 : decode cX5_add 33 = .ok (.getfield 22, 3) := by decide +kernel
theorem dX5_add_36 : decode cX5_add 36 = .ok (.iload 5, 2) := by decide +kernel
theorem dX5_add_38 : decode cX5_add 38 = .ok (.iload_n 3, 1) := by decide +kernel
theorem dX5_add_39 : decode cX5_add 39 = .ok (.iastore, 1) := by decide +kernel
theorem dX5_add_40 : decode cX5_add 40 = .ok (.aload_n 0, 1) := by decide +kernel
theorem dX5_add_41 : decode cX5_add 41 = .ok (.getfield 25, 3) := by decide +kernel
theorem dX5_add_44 : decode cX5_add 44 = .ok (.iload 5, 2) := by decide +kernel
theorem dX5_add_46 : decode cX5_add 46 = .ok (.iload 4, 2) := by decide +kernel
theorem dX5_add_48 : decode cX5_add 48 = .ok (.iastore, 1) := by decide +kernel
theorem dX5_add_49 : decode cX5_add 49 = .ok (.aload_n 0, 1) := by decide +kernel
theorem dX5_add_50 : decode cX5_add 50 = .ok (.getfield 28, 3) := by decide +kernel
theorem dX5_add_53 : decode cX5_add 53 = .ok (.iload 5, 2) := by decide +kernel
theorem dX5_add_55 : decode cX5_add 55 = .ok (.iconst (-1), 1) := by decide +kernel
theorem dX5_add_56 : decode cX5_add 56 = .ok (.iastore, 1) := by decide +kernel
theorem dX5_add_57 : decode cX5_add 57 = .ok (.aload_n 0, 1) := by decide +kernel
theorem dX5_add_58 : decode cX5_add 58 = .ok (.getfield 31, 3) := by decide +kernel
theorem dX5_add_61 : decode cX5_add 61 = .ok (.iload 5, 2) := by decide +kernel
theorem dX5_add_63 : decode cX5_add 63 = .ok (.iconst (-1), 1) := by decide +kernel
theorem dX5_add_64 : decode cX5_add 64 = .ok (.iastore, 1) := by decide +kernel
theorem dX5_add_65 : decode cX5_add 65 = .ok (.aload_n 0, 1) := by decide +kernel
theorem dX5_add_66 : decode cX5_add 66 = .ok (.aload_n 0, 1) := by decide +kernel
theorem dX5_add_67 : decode cX5_add 67 = .ok (.iload 5, 2) := by decide +kernel
theorem dX5_add_69 : decode cX5_add 69 = .ok (.invokevirtual 70, 3) := by decide +kernel
theorem dX5_add_72 : decode cX5_add 72 = .ok (.iload 5, 2) := by decide +kernel
theorem dX5_add_74 : decode cX5_add 74 = .ok (.invokevirtual 74, 3) := by decide +kernel
theorem dX5_add_77 : decode cX5_add 77 = .ok (.aload_n 0, 1) := by decide +kernel
theorem dX5_add_78 : decode cX5_add 78 = .ok (.aload_n 0, 1) := by decide +kernel
theorem dX5_add_79 : decode cX5_add 79 = .ok (.iload 5, 2) := by decide +kernel
theorem dX5_add_81 : decode cX5_add 81 = .ok (.invokevirtual 78, 3) := by decide +kernel
theorem dX5_add_84 : decode cX5_add 84 = .ok (.iload 5, 2) := by decide +kernel
theorem dX5_add_86 : decode cX5_add 86 = .ok (.invokevirtual 74, 3) := by decide +kernel
theorem dX5_add_89 : decode cX5_add 89 = .ok (.aload_n 0, 1) := by decide +kernel
theorem dX5_add_90 : decode cX5_add 90 = .ok (.aload_n 0, 1) := by decide +kernel
theorem dX5_add_91 : decode cX5_add 91 = .ok (.iload 5, 2) := by decide +kernel
theorem dX5_add_93 : decode cX5_add 93 = .ok (.invokevirtual 81, 3) := by decide +kernel
theorem dX5_add_96 : decode cX5_add 96 = .ok (.iload 5, 2) := by decide +kernel
theorem dX5_add_98 : decode cX5_add 98 = .ok (.invokevirtual 74, 3) := by decide +kernel
theorem dX5_add_101 : decode cX5_add 101 = .ok (.iload 5, 2) := by decide +kernel
theorem dX5_add_103 : decode cX5_add 103 = .ok (.ireturn, 1) := by decide +kernel
theorem dX8_node_0 : decode cX8_node 0 = .ok (.aload_n 0, 1) := by decide +kernel
theorem dX8_node_1 : decode cX8_node 1 = .ok (.getfield 19, 3) := by decide +kernel
theorem dX8_node_4 : decode cX8_node 4 = .ok (.iload_n 1, 1) := by decide +kernel
theorem dX8_node_5 : decode cX8_node 5 = .ok (.iload_n 2, 1) := by decide +kernel
theorem dX8_node_6 : decode cX8_node 6 = .ok (.iload_n 3, 1) := by decide +kernel
theorem dX8_node_7 : decode cX8_node 7 = .ok (.iload 4, 2) := by decide +kernel
theorem dX8_node_9 : decode cX8_node 9 = .ok (.invokevirtual 175, 3) := by decide +kernel
theorem dX8_node_12 : decode cX8_node 12 = .ok (.invokestatic 95, 3) := by decide +kernel
theorem dX8_node_15 : decode cX8_node 15 = .ok (.aload_n 0, 1) := by decide +kernel
theorem dX8_node_16 : decode cX8_node 16 = .ok (.getfield 19, 3) := by decide +kernel
theorem dX8_node_19 : decode cX8_node 19 = .ok (.getfield 179, 3) := by decide +kernel
theorem dX8_node_22 : decode cX8_node 22 = .ok (.bipush 110, 2) := by decide +kernel
theorem dX8_node_24 : decode cX8_node 24 = .ok (.if_icmp .ge 7, 3) := by decide +kernel
theorem dX8_node_31 : decode cX8_node 31 = .ok (.iconst 0, 1) := by decide +kernel
theorem dX8_node_27 : decode cX8_node 27 = .ok (.iconst 1, 1) := by decide +kernel
theorem dX8_node_28 : decode cX8_node 28 = .ok (.goto 4, 3) := by decide +kernel
theorem dX8_node_32 : decode cX8_node 32 = .ok (.invokestatic 106, 3) := by decide +kernel
theorem dX8_node_35 : decode cX8_node 35 = .ok (.aload_n 0, 1) := by decide +kernel
theorem dX8_node_36 : decode cX8_node 36 = .ok (.iconst 1, 1) := by decide +kernel
theorem dX8_node_37 : decode cX8_node 37 = .ok (.putfield 70, 3) := by decide +kernel
theorem dX8_node_40 : decode cX8_node 40 = .ok (.aload_n 0, 1) := by decide +kernel
theorem dX8_node_41 : decode cX8_node 41 = .ok (.getfield 19, 3) := by decide +kernel
theorem dX8_node_44 : decode cX8_node 44 = .ok (.iload_n 1, 1) := by decide +kernel
theorem dX8_node_45 : decode cX8_node 45 = .ok (.iload_n 2, 1) := by decide +kernel
theorem dX8_node_46 : decode cX8_node 46 = .ok (.iload_n 3, 1) := by decide +kernel
theorem dX8_node_47 : decode cX8_node 47 = .ok (.iload 4, 2) := by decide +kernel
theorem dX8_node_49 : decode cX8_node 49 = .ok (.invokevirtual 180, 3) := by decide +kernel
theorem dX8_node_52 : decode cX8_node 52 = .ok (.ireturn, 1) := by decide +kernel
theorem dX8_body_0 : decode cX8_body 0 = .ok (.aload_n 0, 1) := by decide +kernel
theorem dX8_body_1 : decode cX8_body 1 = .ok (.iload_n 1, 1) := by decide +kernel
theorem dX8_body_2 : decode cX8_body 2 = .ok (.invokevirtual 87, 3) := by decide +kernel
theorem dX8_body_5 : decode cX8_body 5 = .ok (.aload_n 0, 1) := by decide +kernel
theorem dX8_body_6 : decode cX8_body 6 = .ok (.iload_n 2, 1) := by decide +kernel
theorem dX8_body_7 : decode cX8_body 7 = .ok (.invokevirtual 183, 3) := by decide +kernel
theorem dX8_body_10 : decode cX8_body 10 = .ok (.aload_n 0, 1) := by decide +kernel
theorem dX8_body_11 : decode cX8_body 11 = .ok (.getfield 19, 3) := by decide +kernel
theorem dX8_body_14 : decode cX8_body 14 = .ok (.iload_n 2, 1) := by decide +kernel
theorem dX8_body_15 : decode cX8_body 15 = .ok (.invokevirtual 186, 3) := by decide +kernel
theorem dX8_body_18 : decode cX8_body 18 = .ok (.invokestatic 95, 3) := by decide +kernel
theorem dX8_body_21 : decode cX8_body 21 = .ok (.aload_n 0, 1) := by decide +kernel
theorem dX8_body_22 : decode cX8_body 22 = .ok (.getfield 19, 3) := by decide +kernel
theorem dX8_body_25 : decode cX8_body 25 = .ok (.iload_n 2, 1) := by decide +kernel
theorem dX8_body_26 : decode cX8_body 26 = .ok (.invokevirtual 189, 3) := by decide +kernel
theorem dX8_body_29 : decode cX8_body 29 = .ok (.invokestatic 106, 3) := by decide +kernel
theorem dX8_body_32 : decode cX8_body 32 = .ok (.aload_n 0, 1) := by decide +kernel
theorem dX8_body_33 : decode cX8_body 33 = .ok (.iconst 1, 1) := by decide +kernel
theorem dX8_body_34 : decode cX8_body 34 = .ok (.putfield 70, 3) := by decide +kernel
theorem dX8_body_37 : decode cX8_body 37 = .ok (.aload_n 0, 1) := by decide +kernel
theorem dX8_body_38 : decode cX8_body 38 = .ok (.getfield 12, 3) := by decide +kernel
theorem dX8_body_41 : decode cX8_body 41 = .ok (.getfield 168, 3) := by decide +kernel
theorem dX8_body_44 : decode cX8_body 44 = .ok (.iload_n 1, 1) := by decide +kernel
theorem dX8_body_45 : decode cX8_body 45 = .ok (.iaload, 1) := by decide +kernel
theorem dX8_body_46 : decode cX8_body 46 = .ok (.istore_n 3, 1) := by decide +kernel
theorem dX8_body_47 : decode cX8_body 47 = .ok (.iload_n 3, 1) := by decide +kernel
theorem dX8_body_48 : decode cX8_body 48 = .ok (.iconst (-1), 1) := by decide +kernel
theorem dX8_body_49 : decode cX8_body 49 = .ok (.if_icmp .eq 13, 3) := by decide +kernel
theorem dX8_body_62 : decode cX8_body 62 = .ok (.aload_n 0, 1) := by decide +kernel
theorem dX8_body_63 : decode cX8_body 63 = .ok (.getfield 12, 3) := by decide +kernel
theorem dX8_body_66 : decode cX8_body 66 = .ok (.getfield 168, 3) := by decide +kernel
theorem dX8_body_69 : decode cX8_body 69 = .ok (.iload_n 1, 1) := by decide +kernel
theorem dX8_body_70 : decode cX8_body 70 = .ok (.iload_n 2, 1) := by decide +kernel
theorem dX8_body_71 : decode cX8_body 71 = .ok (.iastore, 1) := by decide +kernel
theorem dX8_body_72 : decode cX8_body 72 = .ok (.aload_n 0, 1) := by decide +kernel
theorem dX8_body_73 : decode cX8_body 73 = .ok (.getfield 19, 3) := by decide +kernel
theorem dX8_body_76 : decode cX8_body 76 = .ok (.getfield 192, 3) := by decide +kernel
theorem dX8_body_79 : decode cX8_body 79 = .ok (.iload_n 2, 1) := by decide +kernel
theorem dX8_body_80 : decode cX8_body 80 = .ok (.iload_n 1, 1) := by decide +kernel
theorem dX8_body_81 : decode cX8_body 81 = .ok (.iastore, 1) := by decide +kernel
theorem dX8_body_82 : decode cX8_body 82 = .ok (.iload_n 3, 1) := by decide +kernel
theorem dX8_body_83 : decode cX8_body 83 = .ok (.ireturn, 1) := by decide +kernel
theorem dX8_body_52 : decode cX8_body 52 = .ok (.aload_n 0, 1) := by decide +kernel
theorem dX8_body_53 : decode cX8_body 53 = .ok (.getfield 19, 3) := by decide +kernel
theorem dX8_body_56 : decode cX8_body 56 = .ok (.getfield 192, 3) := by decide +kernel
theorem dX8_body_59 : decode cX8_body 59 = .ok (.iload_n 3, 1) := by decide +kernel
theorem dX8_body_60 : decode cX8_body 60 = .ok (.iconst (-1), 1) := by decide +kernel
theorem dX8_body_61 : decode cX8_body 61 = .ok (.iastore, 1) := by decide +kernel
theorem dX8_isSizeOf_0 : decode cX8_isSizeOf 0 = .ok (.iload_n 0, 1) := by decide +kernel
theorem dX8_isSizeOf_1 : decode cX8_isSizeOf 1 = .ok (.bipush 6, 2) := by decide +kernel
theorem dX8_isSizeOf_3 : decode cX8_isSizeOf 3 = .ok (.iadd, 1) := by decide +kernel
theorem dX8_isSizeOf_4 : decode cX8_isSizeOf 4 = .ok (.tableswitch 77 6 9 #[32, 42, 32, 59], 32) := by decide +kernel
theorem dX8_isSizeOf_36 : decode cX8_isSizeOf 36 = .ok (.iload_n 1, 1) := by decide +kernel
theorem dX8_isSizeOf_37 : decode cX8_isSizeOf 37 = .ok (.ifCond .ne 7, 3) := by decide +kernel
theorem dX8_isSizeOf_44 : decode cX8_isSizeOf 44 = .ok (.iconst 0, 1) := by decide +kernel
theorem dX8_isSizeOf_45 : decode cX8_isSizeOf 45 = .ok (.ireturn, 1) := by decide +kernel
theorem dX8_isSizeOf_40 : decode cX8_isSizeOf 40 = .ok (.iconst 1, 1) := by decide +kernel
theorem dX8_isSizeOf_41 : decode cX8_isSizeOf 41 = .ok (.goto 4, 3) := by decide +kernel
theorem dX8_isSizeOf_46 : decode cX8_isSizeOf 46 = .ok (.iload_n 1, 1) := by decide +kernel
theorem dX8_isSizeOf_47 : decode cX8_isSizeOf 47 = .ok (.iconst 1, 1) := by decide +kernel
theorem dX8_isSizeOf_48 : decode cX8_isSizeOf 48 = .ok (.if_icmp .lt 13, 3) := by decide +kernel
theorem dX8_isSizeOf_61 : decode cX8_isSizeOf 61 = .ok (.iconst 0, 1) := by decide +kernel
theorem dX8_isSizeOf_62 : decode cX8_isSizeOf 62 = .ok (.ireturn, 1) := by decide +kernel
theorem dX8_isSizeOf_51 : decode cX8_isSizeOf 51 = .ok (.iload_n 1, 1) := by decide +kernel
theorem dX8_isSizeOf_52 : decode cX8_isSizeOf 52 = .ok (.bipush 8, 2) := by decide +kernel
theorem dX8_isSizeOf_54 : decode cX8_isSizeOf 54 = .ok (.if_icmp .gt 7, 3) := by decide +kernel
theorem dX8_isSizeOf_57 : decode cX8_isSizeOf 57 = .ok (.iconst 1, 1) := by decide +kernel
theorem dX8_isSizeOf_58 : decode cX8_isSizeOf 58 = .ok (.goto 4, 3) := by decide +kernel
theorem dX8_isSizeOf_63 : decode cX8_isSizeOf 63 = .ok (.iload_n 1, 1) := by decide +kernel
theorem dX8_isSizeOf_64 : decode cX8_isSizeOf 64 = .ok (.bipush (-99), 2) := by decide +kernel
theorem dX8_isSizeOf_66 : decode cX8_isSizeOf 66 = .ok (.if_icmp .lt 13, 3) := by decide +kernel
theorem dX8_isSizeOf_79 : decode cX8_isSizeOf 79 = .ok (.iconst 0, 1) := by decide +kernel
theorem dX8_isSizeOf_80 : decode cX8_isSizeOf 80 = .ok (.ireturn, 1) := by decide +kernel
theorem dX8_isSizeOf_69 : decode cX8_isSizeOf 69 = .ok (.iload_n 1, 1) := by decide +kernel
theorem dX8_isSizeOf_70 : decode cX8_isSizeOf 70 = .ok (.bipush 99, 2) := by decide +kernel
theorem dX8_isSizeOf_72 : decode cX8_isSizeOf 72 = .ok (.if_icmp .gt 7, 3) := by decide +kernel
theorem dX8_isSizeOf_75 : decode cX8_isSizeOf 75 = .ok (.iconst 1, 1) := by decide +kernel
theorem dX8_isSizeOf_76 : decode cX8_isSizeOf 76 = .ok (.goto 4, 3) := by decide +kernel
theorem dX8_isSizeOf_81 : decode cX8_isSizeOf 81 = .ok (.iconst 0, 1) := by decide +kernel
theorem dX8_isSizeOf_82 : decode cX8_isSizeOf 82 = .ok (.ireturn, 1) := by decide +kernel
theorem dX1_takesVariable_0 : decode cX1_takesVariable 0 = .ok (.aload_n 0, 1) := by decide +kernel
theorem dX1_takesVariable_1 : decode cX1_takesVariable 1 = .ok (.getfield 25, 3) := by decide +kernel
theorem dX1_takesVariable_4 : decode cX1_takesVariable 4 = .ok (.iload_n 1, 1) := by decide +kernel
theorem dX1_takesVariable_5 : decode cX1_takesVariable 5 = .ok (.iaload, 1) := by decide +kernel
theorem dX1_takesVariable_6 : decode cX1_takesVariable 6 = .ok (.bipush 6, 2) := by decide +kernel
theorem dX1_takesVariable_8 : decode cX1_takesVariable 8 = .ok (.if_icmp .ge 16, 3) := by decide +kernel
theorem dX1_takesVariable_24 : decode cX1_takesVariable 24 = .ok (.iconst 0, 1) := by decide +kernel
theorem dX1_takesVariable_25 : decode cX1_takesVariable 25 = .ok (.ireturn, 1) := by decide +kernel
theorem dX1_takesVariable_11 : decode cX1_takesVariable 11 = .ok (.aload_n 0, 1) := by decide +kernel
theorem dX1_takesVariable_12 : decode cX1_takesVariable 12 = .ok (.iload_n 1, 1) := by decide +kernel
theorem dX1_takesVariable_13 : decode cX1_takesVariable 13 = .ok (.iload_n 2, 1) := by decide +kernel
theorem dX1_takesVariable_14 : decode cX1_takesVariable 14 = .ok (.invokevirtual 55, 3) := by decide +kernel
theorem dX1_takesVariable_17 : decode cX1_takesVariable 17 = .ok (.ifCond .ne 7, 3) := by decide +kernel
theorem dX1_takesVariable_20 : decode cX1_takesVariable 20 = .ok (.iconst 1, 1) := by decide +kernel
theorem dX1_takesVariable_21 : decode cX1_takesVariable 21 = .ok (.goto 4, 3) := by decide +kernel
theorem dX1_declare_0 : decode cX1_declare 0 = .ok (.iload_n 1, 1) := by decide +kernel
theorem dX1_declare_1 : decode cX1_declare 1 = .ok (.bipush 16, 2) := by decide +kernel
theorem dX1_declare_3 : decode cX1_declare 3 = .ok (.imul, 1) := by decide +kernel
theorem dX1_declare_4 : decode cX1_declare 4 = .ok (.iload_n 2, 1) := by decide +kernel
theorem dX1_declare_5 : decode cX1_declare 5 = .ok (.iadd, 1) := by decide +kernel
theorem dX1_declare_6 : decode cX1_declare 6 = .ok (.istore 5, 2) := by decide +kernel
theorem dX1_declare_8 : decode cX1_declare 8 = .ok (.aload_n 0, 1) := by decide +kernel
theorem dX1_declare_9 : decode cX1_declare 9 = .ok (.getfield 34, 3) := by decide +kernel
theorem dX1_declare_12 : decode cX1_declare 12 = .ok (.iload 5, 2) := by decide +kernel
theorem dX1_declare_14 : decode cX1_declare 14 = .ok (.iload_n 3, 1) := by decide +kernel
theorem dX1_declare_15 : decode cX1_declare 15 = .ok (.iastore, 1) := by decide +kernel
theorem dX1_declare_16 : decode cX1_declare 16 = .ok (.aload_n 0, 1) := by decide +kernel
theorem dX1_declare_17 : decode cX1_declare 17 = .ok (.getfield 37, 3) := by decide +kernel
theorem dX1_declare_20 : decode cX1_declare 20 = .ok (.iload 5, 2) := by decide +kernel
theorem dX1_declare_22 : decode cX1_declare 22 = .ok (.iconst (-1), 1) := by decide +kernel
theorem dX1_declare_23 : decode cX1_declare 23 = .ok (.iastore, 1) := by decide +kernel
theorem dX1_declare_24 : decode cX1_declare 24 = .ok (.aload_n 0, 1) := by decide +kernel
theorem dX1_declare_25 : decode cX1_declare 25 = .ok (.getfield 40, 3) := by decide +kernel
theorem dX1_declare_28 : decode cX1_declare 28 = .ok (.iload 5, 2) := by decide +kernel
theorem dX1_declare_30 : decode cX1_declare 30 = .ok (.iload 4, 2) := by decide +kernel
theorem dX1_declare_32 : decode cX1_declare 32 = .ok (.iastore, 1) := by decide +kernel
theorem dX1_declare_33 : decode cX1_declare 33 = .ok (.return_, 1) := by decide +kernel
theorem dX1_declarePlace_0 : decode cX1_declarePlace 0 = .ok (.aload_n 0, 1) := by decide +kernel
theorem dX1_declarePlace_1 : decode cX1_declarePlace 1 = .ok (.getfield 28, 3) := by decide +kernel
theorem dX1_declarePlace_4 : decode cX1_declarePlace 4 = .ok (.iload_n 1, 1) := by decide +kernel
theorem dX1_declarePlace_5 : decode cX1_declarePlace 5 = .ok (.iaload, 1) := by decide +kernel
theorem dX1_declarePlace_6 : decode cX1_declarePlace 6 = .ok (.istore 5, 2) := by decide +kernel
theorem dX1_declarePlace_8 : decode cX1_declarePlace 8 = .ok (.aload_n 0, 1) := by decide +kernel
theorem dX1_declarePlace_9 : decode cX1_declarePlace 9 = .ok (.getfield 28, 3) := by decide +kernel
theorem dX1_declarePlace_12 : decode cX1_declarePlace 12 = .ok (.iload_n 1, 1) := by decide +kernel
theorem dX1_declarePlace_13 : decode cX1_declarePlace 13 = .ok (.dup2, 1) := by decide +kernel
theorem dX1_declarePlace_14 : decode cX1_declarePlace 14 = .ok (.iaload, 1) := by decide +kernel
theorem dX1_declarePlace_15 : decode cX1_declarePlace 15 = .ok (.iconst 1, 1) := by decide +kernel
theorem dX1_declarePlace_16 : decode cX1_declarePlace 16 = .ok (.iadd, 1) := by decide +kernel
theorem dX1_declarePlace_17 : decode cX1_declarePlace 17 = .ok (.iastore, 1) := by decide +kernel
theorem dX1_declarePlace_18 : decode cX1_declarePlace 18 = .ok (.aload_n 0, 1) := by decide +kernel
theorem dX1_declarePlace_19 : decode cX1_declarePlace 19 = .ok (.iload_n 1, 1) := by decide +kernel
theorem dX1_declarePlace_20 : decode cX1_declarePlace 20 = .ok (.iload_n 2, 1) := by decide +kernel
theorem dX1_declarePlace_21 : decode cX1_declarePlace 21 = .ok (.iload_n 3, 1) := by decide +kernel
theorem dX1_declarePlace_22 : decode cX1_declarePlace 22 = .ok (.iload 4, 2) := by decide +kernel
theorem dX1_declarePlace_24 : decode cX1_declarePlace 24 = .ok (.invokevirtual 59, 3) := by decide +kernel
theorem dX1_declarePlace_27 : decode cX1_declarePlace 27 = .ok (.aload_n 0, 1) := by decide +kernel
theorem dX1_declarePlace_28 : decode cX1_declarePlace 28 = .ok (.getfield 37, 3) := by decide +kernel
theorem dX1_declarePlace_31 : decode cX1_declarePlace 31 = .ok (.iload_n 1, 1) := by decide +kernel
theorem dX1_declarePlace_32 : decode cX1_declarePlace 32 = .ok (.bipush 16, 2) := by decide +kernel
theorem dX1_declarePlace_34 : decode cX1_declarePlace 34 = .ok (.imul, 1) := by decide +kernel
theorem dX1_declarePlace_35 : decode cX1_declarePlace 35 = .ok (.iload_n 2, 1) := by decide +kernel
theorem dX1_declarePlace_36 : decode cX1_declarePlace 36 = .ok (.iadd, 1) := by decide +kernel
theorem dX1_declarePlace_37 : decode cX1_declarePlace 37 = .ok (.iload 5, 2) := by decide +kernel
theorem dX1_declarePlace_39 : decode cX1_declarePlace 39 = .ok (.iastore, 1) := by decide +kernel
theorem dX1_declarePlace_40 : decode cX1_declarePlace 40 = .ok (.aload_n 0, 1) := by decide +kernel
theorem dX1_declarePlace_41 : decode cX1_declarePlace 41 = .ok (.getfield 43, 3) := by decide +kernel
theorem dX1_declarePlace_44 : decode cX1_declarePlace 44 = .ok (.iload_n 1, 1) := by decide +kernel
theorem dX1_declarePlace_45 : decode cX1_declarePlace 45 = .ok (.bipush 10, 2) := by decide +kernel
theorem dX1_declarePlace_47 : decode cX1_declarePlace 47 = .ok (.imul, 1) := by decide +kernel
theorem dX1_declarePlace_48 : decode cX1_declarePlace 48 = .ok (.iload 5, 2) := by decide +kernel
theorem dX1_declarePlace_50 : decode cX1_declarePlace 50 = .ok (.iadd, 1) := by decide +kernel
theorem dX1_declarePlace_51 : decode cX1_declarePlace 51 = .ok (.iload_n 3, 1) := by decide +kernel
theorem dX1_declarePlace_52 : decode cX1_declarePlace 52 = .ok (.iastore, 1) := by decide +kernel
theorem dX1_declarePlace_53 : decode cX1_declarePlace 53 = .ok (.aload_n 0, 1) := by decide +kernel
theorem dX1_declarePlace_54 : decode cX1_declarePlace 54 = .ok (.getfield 46, 3) := by decide +kernel
theorem dX1_declarePlace_57 : decode cX1_declarePlace 57 = .ok (.iload_n 1, 1) := by decide +kernel
theorem dX1_declarePlace_58 : decode cX1_declarePlace 58 = .ok (.bipush 10, 2) := by decide +kernel
theorem dX1_declarePlace_60 : decode cX1_declarePlace 60 = .ok (.imul, 1) := by decide +kernel
theorem dX1_declarePlace_61 : decode cX1_declarePlace 61 = .ok (.iload 5, 2) := by decide +kernel
theorem dX1_declarePlace_63 : decode cX1_declarePlace 63 = .ok (.iadd, 1) := by decide +kernel
theorem dX1_declarePlace_64 : decode cX1_declarePlace 64 = .ok (.iload 4, 2) := by decide +kernel
theorem dX1_declarePlace_66 : decode cX1_declarePlace 66 = .ok (.iastore, 1) := by decide +kernel
theorem dX1_declarePlace_67 : decode cX1_declarePlace 67 = .ok (.iload 5, 2) := by decide +kernel
theorem dX1_declarePlace_69 : decode cX1_declarePlace 69 = .ok (.ireturn, 1) := by decide +kernel
theorem dX1_addVariable_0 : decode cX1_addVariable 0 = .ok (.aload_n 0, 1) := by decide +kernel
theorem dX1_addVariable_1 : decode cX1_addVariable 1 = .ok (.getfield 25, 3) := by decide +kernel
theorem dX1_addVariable_4 : decode cX1_addVariable 4 = .ok (.iload_n 1, 1) := by decide +kernel
theorem dX1_addVariable_5 : decode cX1_addVariable 5 = .ok (.dup2, 1) := by decide +kernel
theorem dX1_addVariable_6 : decode cX1_addVariable 6 = .ok (.iaload, 1) := by decide +kernel
theorem dX1_addVariable_7 : decode cX1_addVariable 7 = .ok (.iconst 1, 1) := by decide +kernel
theorem dX1_addVariable_8 : decode cX1_addVariable 8 = .ok (.iadd, 1) := by decide +kernel
theorem dX1_addVariable_9 : decode cX1_addVariable 9 = .ok (.iastore, 1) := by decide +kernel
theorem dX1_addVariable_10 : decode cX1_addVariable 10 = .ok (.iload_n 3, 1) := by decide +kernel
theorem dX1_addVariable_11 : decode cX1_addVariable 11 = .ok (.bipush 9, 2) := by decide +kernel
theorem dX1_addVariable_13 : decode cX1_addVariable 13 = .ok (.if_icmp .ne 14, 3) := by decide +kernel
theorem dX1_addVariable_27 : decode cX1_addVariable 27 = .ok (.aload_n 0, 1) := by decide +kernel
theorem dX1_addVariable_28 : decode cX1_addVariable 28 = .ok (.iload_n 1, 1) := by decide +kernel
theorem dX1_addVariable_29 : decode cX1_addVariable 29 = .ok (.iload_n 2, 1) := by decide +kernel
theorem dX1_addVariable_30 : decode cX1_addVariable 30 = .ok (.iload_n 3, 1) := by decide +kernel
theorem dX1_addVariable_31 : decode cX1_addVariable 31 = .ok (.iload 4, 2) := by decide +kernel
theorem dX1_addVariable_33 : decode cX1_addVariable 33 = .ok (.invokevirtual 63, 3) := by decide +kernel
theorem dX1_addVariable_36 : decode cX1_addVariable 36 = .ok (.ireturn, 1) := by decide +kernel
theorem dX1_addVariable_16 : decode cX1_addVariable 16 = .ok (.aload_n 0, 1) := by decide +kernel
theorem dX1_addVariable_17 : decode cX1_addVariable 17 = .ok (.iload_n 1, 1) := by decide +kernel
theorem dX1_addVariable_18 : decode cX1_addVariable 18 = .ok (.iload_n 2, 1) := by decide +kernel
theorem dX1_addVariable_19 : decode cX1_addVariable 19 = .ok (.iload_n 3, 1) := by decide +kernel
theorem dX1_addVariable_20 : decode cX1_addVariable 20 = .ok (.iload 4, 2) := by decide +kernel
theorem dX1_addVariable_22 : decode cX1_addVariable 22 = .ok (.invokevirtual 59, 3) := by decide +kernel
theorem dX1_addVariable_25 : decode cX1_addVariable 25 = .ok (.iconst (-1), 1) := by decide +kernel
theorem dX1_addVariable_26 : decode cX1_addVariable 26 = .ok (.ireturn, 1) := by decide +kernel
theorem dX8_variable_0 : decode cX8_variable 0 = .ok (.aload_n 0, 1) := by decide +kernel
theorem dX8_variable_1 : decode cX8_variable 1 = .ok (.iload_n 1, 1) := by decide +kernel
theorem dX8_variable_2 : decode cX8_variable 2 = .ok (.invokevirtual 87, 3) := by decide +kernel
theorem dX8_variable_5 : decode cX8_variable 5 = .ok (.iload_n 2, 1) := by decide +kernel
theorem dX8_variable_6 : decode cX8_variable 6 = .ok (.invokestatic 91, 3) := by decide +kernel
theorem dX8_variable_9 : decode cX8_variable 9 = .ok (.ifCond .eq 16, 3) := by decide +kernel
theorem dX8_variable_25 : decode cX8_variable 25 = .ok (.iconst 0, 1) := by decide +kernel
theorem dX8_variable_12 : decode cX8_variable 12 = .ok (.iload_n 3, 1) := by decide +kernel
theorem dX8_variable_13 : decode cX8_variable 13 = .ok (.iload 4, 2) := by decide +kernel
theorem dX8_variable_15 : decode cX8_variable 15 = .ok (.invokestatic 120, 3) := by decide +kernel
theorem dX8_variable_18 : decode cX8_variable 18 = .ok (.ifCond .eq 7, 3) := by decide +kernel
theorem dX8_variable_21 : decode cX8_variable 21 = .ok (.iconst 1, 1) := by decide +kernel
theorem dX8_variable_22 : decode cX8_variable 22 = .ok (.goto 4, 3) := by decide +kernel
theorem dX8_variable_26 : decode cX8_variable 26 = .ok (.invokestatic 95, 3) := by decide +kernel
theorem dX8_variable_29 : decode cX8_variable 29 = .ok (.aload_n 0, 1) := by decide +kernel
theorem dX8_variable_30 : decode cX8_variable 30 = .ok (.getfield 12, 3) := by decide +kernel
theorem dX8_variable_33 : decode cX8_variable 33 = .ok (.iload_n 1, 1) := by decide +kernel
theorem dX8_variable_34 : decode cX8_variable 34 = .ok (.iload_n 2, 1) := by decide +kernel
theorem dX8_variable_35 : decode cX8_variable 35 = .ok (.invokevirtual 123, 3) := by decide +kernel
theorem dX8_variable_38 : decode cX8_variable 38 = .ok (.invokestatic 106, 3) := by decide +kernel
theorem dX8_variable_41 : decode cX8_variable 41 = .ok (.aload_n 0, 1) := by decide +kernel
theorem dX8_variable_42 : decode cX8_variable 42 = .ok (.iconst 1, 1) := by decide +kernel
theorem dX8_variable_43 : decode cX8_variable 43 = .ok (.putfield 70, 3) := by decide +kernel
theorem dX8_variable_46 : decode cX8_variable 46 = .ok (.aload_n 0, 1) := by decide +kernel
theorem dX8_variable_47 : decode cX8_variable 47 = .ok (.getfield 12, 3) := by decide +kernel
theorem dX8_variable_50 : decode cX8_variable 50 = .ok (.iload_n 1, 1) := by decide +kernel
theorem dX8_variable_51 : decode cX8_variable 51 = .ok (.iload_n 2, 1) := by decide +kernel
theorem dX8_variable_52 : decode cX8_variable 52 = .ok (.iload_n 3, 1) := by decide +kernel
theorem dX8_variable_53 : decode cX8_variable 53 = .ok (.bipush 6, 2) := by decide +kernel
theorem dX8_variable_55 : decode cX8_variable 55 = .ok (.iadd, 1) := by decide +kernel
theorem dX8_variable_56 : decode cX8_variable 56 = .ok (.iload 4, 2) := by decide +kernel
theorem dX8_variable_58 : decode cX8_variable 58 = .ok (.invokevirtual 126, 3) := by decide +kernel
theorem dX8_variable_61 : decode cX8_variable 61 = .ok (.ireturn, 1) := by decide +kernel
