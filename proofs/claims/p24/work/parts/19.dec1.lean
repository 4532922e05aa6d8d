theorem dX8_needArgument_0 : decode cX8_needArgument 0 = .ok (.iload_n 0, 1) := by decide +kernel
theorem dX8_needArgument_1 : decode cX8_needArgument 1 = .ok (.ifCond .ne 14, 3) := by decide +kernel
theorem dX8_needArgument_15 : decode cX8_needArgument 15 = .ok (.return_, 1) := by decide +kernel
theorem dX4_findWhereNodesAre_0 : decode cX4_findWhereNodesAre 0 = .ok (.aload_n 0, 1) := by decide +kernel
theorem dX4_findWhereNodesAre_1 : decode cX4_findWhereNodesAre 1 = .ok (.getfield 69, 3) := by decide +kernel
theorem dX4_findWhereNodesAre_4 : decode cX4_findWhereNodesAre 4 = .ok (.getfield 76, 3) := by decide +kernel
theorem dX4_findWhereNodesAre_7 : decode cX4_findWhereNodesAre 7 = .ok (.iconst 1, 1) := by decide +kernel
theorem dX4_findWhereNodesAre_8 : decode cX4_findWhereNodesAre 8 = .ok (.isub, 1) := by decide +kernel
theorem dX4_findWhereNodesAre_9 : decode cX4_findWhereNodesAre 9 = .ok (.istore_n 1, 1) := by decide +kernel
theorem dX4_findWhereNodesAre_10 : decode cX4_findWhereNodesAre 10 = .ok (.iload_n 1, 1) := by decide +kernel
theorem dX4_findWhereNodesAre_11 : decode cX4_findWhereNodesAre 11 = .ok (.ifCond .lt 77, 3) := by decide +kernel
theorem dX4_findWhereNodesAre_14 : decode cX4_findWhereNodesAre 14 = .ok (.aload_n 0, 1) := by decide +kernel
theorem dX4_findWhereNodesAre_15 : decode cX4_findWhereNodesAre 15 = .ok (.getfield 69, 3) := by decide +kernel
theorem dX4_findWhereNodesAre_18 : decode cX4_findWhereNodesAre 18 = .ok (.getfield 114, 3) := by decide +kernel
theorem dX4_findWhereNodesAre_21 : decode cX4_findWhereNodesAre 21 = .ok (.iload_n 1, 1) := by decide +kernel
theorem dX4_findWhereNodesAre_22 : decode cX4_findWhereNodesAre 22 = .ok (.iaload, 1) := by decide +kernel
theorem dX4_findWhereNodesAre_23 : decode cX4_findWhereNodesAre 23 = .ok (.iconst (-1), 1) := by decide +kernel
theorem dX4_findWhereNodesAre_24 : decode cX4_findWhereNodesAre 24 = .ok (.if_icmp .eq 21, 3) := by decide +kernel
theorem dX4_findWhereNodesAre_45 : decode cX4_findWhereNodesAre 45 = .ok (.aload_n 0, 1) := by decide +kernel
theorem dX4_findWhereNodesAre_46 : decode cX4_findWhereNodesAre 46 = .ok (.getfield 9, 3) := by decide +kernel
theorem dX4_findWhereNodesAre_49 : decode cX4_findWhereNodesAre 49 = .ok (.iload_n 1, 1) := by decide +kernel
theorem dX4_findWhereNodesAre_50 : decode cX4_findWhereNodesAre 50 = .ok (.aload_n 0, 1) := by decide +kernel
theorem dX4_findWhereNodesAre_51 : decode cX4_findWhereNodesAre 51 = .ok (.getfield 69, 3) := by decide +kernel
theorem dX4_findWhereNodesAre_54 : decode cX4_findWhereNodesAre 54 = .ok (.getfield 117, 3) := by decide +kernel
theorem dX4_findWhereNodesAre_57 : decode cX4_findWhereNodesAre 57 = .ok (.iload_n 1, 1) := by decide +kernel
theorem dX4_findWhereNodesAre_58 : decode cX4_findWhereNodesAre 58 = .ok (.iaload, 1) := by decide +kernel
theorem dX4_findWhereNodesAre_59 : decode cX4_findWhereNodesAre 59 = .ok (.iconst (-1), 1) := by decide +kernel
theorem dX4_findWhereNodesAre_60 : decode cX4_findWhereNodesAre 60 = .ok (.if_icmp .ne 7, 3) := by decide +kernel
theorem dX4_findWhereNodesAre_67 : decode cX4_findWhereNodesAre 67 = .ok (.aload_n 0, 1) := by decide +kernel
theorem dX4_findWhereNodesAre_68 : decode cX4_findWhereNodesAre 68 = .ok (.getfield 9, 3) := by decide +kernel
theorem dX4_findWhereNodesAre_71 : decode cX4_findWhereNodesAre 71 = .ok (.aload_n 0, 1) := by decide +kernel
theorem dX4_findWhereNodesAre_72 : decode cX4_findWhereNodesAre 72 = .ok (.getfield 69, 3) := by decide +kernel
theorem dX4_findWhereNodesAre_75 : decode cX4_findWhereNodesAre 75 = .ok (.getfield 117, 3) := by decide +kernel
theorem dX4_findWhereNodesAre_78 : decode cX4_findWhereNodesAre 78 = .ok (.iload_n 1, 1) := by decide +kernel
theorem dX4_findWhereNodesAre_79 : decode cX4_findWhereNodesAre 79 = .ok (.iaload, 1) := by decide +kernel
theorem dX4_findWhereNodesAre_80 : decode cX4_findWhereNodesAre 80 = .ok (.iaload, 1) := by decide +kernel
theorem dX4_findWhereNodesAre_81 : decode cX4_findWhereNodesAre 81 = .ok (.iastore, 1) := by decide +kernel
theorem dX4_findWhereNodesAre_82 : decode cX4_findWhereNodesAre 82 = .ok (.iinc 1 (-1), 3) := by decide +kernel
theorem dX4_findWhereNodesAre_85 : decode cX4_findWhereNodesAre 85 = .ok (.goto (-75), 3) := by decide +kernel
theorem dX4_findWhereNodesAre_63 : decode cX4_findWhereNodesAre 63 = .ok (.iconst (-1), 1) := by decide +kernel
theorem dX4_findWhereNodesAre_64 : decode cX4_findWhereNodesAre 64 = .ok (.goto 17, 3) := by decide +kernel
theorem dX4_findWhereNodesAre_27 : decode cX4_findWhereNodesAre 27 = .ok (.aload_n 0, 1) := by decide +kernel
theorem dX4_findWhereNodesAre_28 : decode cX4_findWhereNodesAre 28 = .ok (.getfield 9, 3) := by decide +kernel
theorem dX4_findWhereNodesAre_31 : decode cX4_findWhereNodesAre 31 = .ok (.iload_n 1, 1) := by decide +kernel
theorem dX4_findWhereNodesAre_32 : decode cX4_findWhereNodesAre 32 = .ok (.aload_n 0, 1) := by decide +kernel
theorem dX4_findWhereNodesAre_33 : decode cX4_findWhereNodesAre 33 = .ok (.getfield 69, 3) := by decide +kernel
theorem dX4_findWhereNodesAre_36 : decode cX4_findWhereNodesAre 36 = .ok (.getfield 114, 3) := by decide +kernel
theorem dX4_findWhereNodesAre_39 : decode cX4_findWhereNodesAre 39 = .ok (.iload_n 1, 1) := by decide +kernel
theorem dX4_findWhereNodesAre_40 : decode cX4_findWhereNodesAre 40 = .ok (.iaload, 1) := by decide +kernel
theorem dX4_findWhereNodesAre_41 : decode cX4_findWhereNodesAre 41 = .ok (.iastore, 1) := by decide +kernel
theorem dX4_findWhereNodesAre_42 : decode cX4_findWhereNodesAre 42 = .ok (.goto 40, 3) := by decide +kernel
theorem dX4_findWhereNodesAre_88 : decode cX4_findWhereNodesAre 88 = .ok (.return_, 1) := by decide +kernel
theorem dX1_hopsTo_0 : decode cX1_hopsTo 0 = .ok (.iload_n 2, 1) := by decide +kernel
theorem dX1_hopsTo_1 : decode cX1_hopsTo 1 = .ok (.istore_n 3, 1) := by decide +kernel
theorem dX1_hopsTo_2 : decode cX1_hopsTo 2 = .ok (.iconst 0, 1) := by decide +kernel
theorem dX1_hopsTo_3 : decode cX1_hopsTo 3 = .ok (.istore 4, 2) := by decide +kernel
theorem dX1_hopsTo_5 : decode cX1_hopsTo 5 = .ok (.iload 4, 2) := by decide +kernel
theorem dX1_hopsTo_7 : decode cX1_hopsTo 7 = .ok (.bipush 10, 2) := by decide +kernel
theorem dX1_hopsTo_9 : decode cX1_hopsTo 9 = .ok (.if_icmp .ge 26, 3) := by decide +kernel
theorem dX1_hopsTo_12 : decode cX1_hopsTo 12 = .ok (.iload_n 3, 1) := by decide +kernel
theorem dX1_hopsTo_13 : decode cX1_hopsTo 13 = .ok (.iload_n 1, 1) := by decide +kernel
theorem dX1_hopsTo_14 : decode cX1_hopsTo 14 = .ok (.if_icmp .eq 21, 3) := by decide +kernel
theorem dX1_hopsTo_17 : decode cX1_hopsTo 17 = .ok (.iload_n 3, 1) := by decide +kernel
theorem dX1_hopsTo_18 : decode cX1_hopsTo 18 = .ok (.iconst (-1), 1) := by decide +kernel
theorem dX1_hopsTo_19 : decode cX1_hopsTo 19 = .ok (.if_icmp .eq 16, 3) := by decide +kernel
theorem dX1_hopsTo_22 : decode cX1_hopsTo 22 = .ok (.aload_n 0, 1) := by decide +kernel
theorem dX1_hopsTo_23 : decode cX1_hopsTo 23 = .ok (.getfield 15, 3) := by decide +kernel
theorem dX1_hopsTo_26 : decode cX1_hopsTo 26 = .ok (.iload_n 3, 1) := by decide +kernel
theorem dX1_hopsTo_27 : decode cX1_hopsTo 27 = .ok (.iaload, 1) := by decide +kernel
theorem dX1_hopsTo_28 : decode cX1_hopsTo 28 = .ok (.istore_n 3, 1) := by decide +kernel
theorem dX1_hopsTo_29 : decode cX1_hopsTo 29 = .ok (.iinc 4 1, 3) := by decide +kernel
theorem dX1_hopsTo_32 : decode cX1_hopsTo 32 = .ok (.goto (-27), 3) := by decide +kernel
theorem dX1_hopsTo_35 : decode cX1_hopsTo 35 = .ok (.iload 4, 2) := by decide +kernel
theorem dX1_hopsTo_37 : decode cX1_hopsTo 37 = .ok (.ireturn, 1) := by decide +kernel
theorem dX4_hasPlace_0 : decode cX4_hasPlace 0 = .ok (.aload_n 0, 1) := by decide +kernel
theorem dX4_hasPlace_1 : decode cX4_hasPlace 1 = .ok (.getfield 21, 3) := by decide +kernel
theorem dX4_hasPlace_4 : decode cX4_hasPlace 4 = .ok (.iload_n 1, 1) := by decide +kernel
theorem dX4_hasPlace_5 : decode cX4_hasPlace 5 = .ok (.iaload, 1) := by decide +kernel
theorem dX4_hasPlace_6 : decode cX4_hasPlace 6 = .ok (.iconst (-1), 1) := by decide +kernel
theorem dX4_hasPlace_7 : decode cX4_hasPlace 7 = .ok (.if_icmp .eq 29, 3) := by decide +kernel
theorem dX4_hasPlace_36 : decode cX4_hasPlace 36 = .ok (.iconst 0, 1) := by decide +kernel
theorem dX4_hasPlace_37 : decode cX4_hasPlace 37 = .ok (.ireturn, 1) := by decide +kernel
theorem dX4_hasPlace_10 : decode cX4_hasPlace 10 = .ok (.aload_n 0, 1) := by decide +kernel
theorem dX4_hasPlace_11 : decode cX4_hasPlace 11 = .ok (.getfield 21, 3) := by decide +kernel
theorem dX4_hasPlace_14 : decode cX4_hasPlace 14 = .ok (.iload_n 1, 1) := by decide +kernel
theorem dX4_hasPlace_15 : decode cX4_hasPlace 15 = .ok (.iaload, 1) := by decide +kernel
theorem dX4_hasPlace_16 : decode cX4_hasPlace 16 = .ok (.bipush 9, 2) := by decide +kernel
theorem dX4_hasPlace_18 : decode cX4_hasPlace 18 = .ok (.if_icmp .eq 18, 3) := by decide +kernel
theorem dX4_hasPlace_21 : decode cX4_hasPlace 21 = .ok (.aload_n 0, 1) := by decide +kernel
theorem dX4_hasPlace_22 : decode cX4_hasPlace 22 = .ok (.getfield 21, 3) := by decide +kernel
theorem dX4_hasPlace_25 : decode cX4_hasPlace 25 = .ok (.iload_n 1, 1) := by decide +kernel
theorem dX4_hasPlace_26 : decode cX4_hasPlace 26 = .ok (.iaload, 1) := by decide +kernel
theorem dX4_hasPlace_27 : decode cX4_hasPlace 27 = .ok (.bipush 10, 2) := by decide +kernel
theorem dX4_hasPlace_29 : decode cX4_hasPlace 29 = .ok (.if_icmp .eq 7, 3) := by decide +kernel
theorem dX4_hasPlace_32 : decode cX4_hasPlace 32 = .ok (.iconst 1, 1) := by decide +kernel
theorem dX4_hasPlace_33 : decode cX4_hasPlace 33 = .ok (.goto 4, 3) := by decide +kernel
theorem dX5_hasName_0 : decode cX5_hasName 0 = .ok (.getstatic 34, 3) := by decide +kernel
theorem dX5_hasName_3 : decode cX5_hasName 3 = .ok (.aload_n 0, 1) := by decide +kernel
theorem dX5_hasName_4 : decode cX5_hasName 4 = .ok (.getfield 15, 3) := by decide +kernel
theorem dX5_hasName_7 : decode cX5_hasName 7 = .ok (.iload_n 1, 1) := by decide +kernel
theorem dX5_hasName_8 : decode cX5_hasName 8 = .ok (.iaload, 1) := by decide +kernel
theorem dX5_hasName_9 : decode cX5_hasName 9 = .ok (.iaload, 1) := by decide +kernel
theorem dX5_hasName_10 : decode cX5_hasName 10 = .ok (.iconst 2, 1) := by decide +kernel
theorem dX5_hasName_11 : decode cX5_hasName 11 = .ok (.if_icmp .ne 7, 3) := by decide +kernel
theorem dX5_hasName_18 : decode cX5_hasName 18 = .ok (.iconst 0, 1) := by decide +kernel
theorem dX5_hasName_19 : decode cX5_hasName 19 = .ok (.ireturn, 1) := by decide +kernel
theorem dX5_hasName_14 : decode cX5_hasName 14 = .ok (.iconst 1, 1) := by decide +kernel
theorem dX5_hasName_15 : decode cX5_hasName 15 = .ok (.goto 4, 3) := by decide +kernel
theorem dX1_declares_0 : decode cX1_declares 0 = .ok (.aload_n 0, 1) := by decide +kernel
theorem dX1_declares_1 : decode cX1_declares 1 = .ok (.getfield 34, 3) := by decide +kernel
theorem dX1_declares_4 : decode cX1_declares 4 = .ok (.iload_n 1, 1) := by decide +kernel
theorem dX1_declares_5 : decode cX1_declares 5 = .ok (.bipush 16, 2) := by decide +kernel
theorem dX1_declares_7 : decode cX1_declares 7 = .ok (.imul, 1) := by decide +kernel
theorem dX1_declares_8 : decode cX1_declares 8 = .ok (.iload_n 2, 1) := by decide +kernel
theorem dX1_declares_9 : decode cX1_declares 9 = .ok (.iadd, 1) := by decide +kernel
theorem dX1_declares_10 : decode cX1_declares 10 = .ok (.iaload, 1) := by decide +kernel
theorem dX1_declares_11 : decode cX1_declares 11 = .ok (.iconst (-1), 1) := by decide +kernel
theorem dX1_declares_12 : decode cX1_declares 12 = .ok (.if_icmp .eq 7, 3) := by decide +kernel
theorem dX1_declares_19 : decode cX1_declares 19 = .ok (.iconst 0, 1) := by decide +kernel
theorem dX1_declares_20 : decode cX1_declares 20 = .ok (.ireturn, 1) := by decide +kernel
theorem dX1_declares_15 : decode cX1_declares 15 = .ok (.iconst 1, 1) := by decide +kernel
theorem dX1_declares_16 : decode cX1_declares 16 = .ok (.goto 4, 3) := by decide +kernel
theorem dX1_declarer_0 : decode cX1_declarer 0 = .ok (.iload_n 1, 1) := by decide +kernel
theorem dX1_declarer_1 : decode cX1_declarer 1 = .ok (.istore_n 3, 1) := by decide +kernel
theorem dX1_declarer_2 : decode cX1_declarer 2 = .ok (.iconst 0, 1) := by decide +kernel
theorem dX1_declarer_3 : decode cX1_declarer 3 = .ok (.istore 4, 2) := by decide +kernel
theorem dX1_declarer_5 : decode cX1_declarer 5 = .ok (.iload 4, 2) := by decide +kernel
theorem dX1_declarer_7 : decode cX1_declarer 7 = .ok (.bipush 10, 2) := by decide +kernel
theorem dX1_declarer_9 : decode cX1_declarer 9 = .ok (.if_icmp .ge 32, 3) := by decide +kernel
theorem dX1_declarer_12 : decode cX1_declarer 12 = .ok (.iload_n 3, 1) := by decide +kernel
theorem dX1_declarer_13 : decode cX1_declarer 13 = .ok (.iconst (-1), 1) := by decide +kernel
theorem dX1_declarer_14 : decode cX1_declarer 14 = .ok (.if_icmp .eq 27, 3) := by decide +kernel
theorem dX1_declarer_17 : decode cX1_declarer 17 = .ok (.aload_n 0, 1) := by decide +kernel
theorem dX1_declarer_18 : decode cX1_declarer 18 = .ok (.iload_n 3, 1) := by decide +kernel
theorem dX1_declarer_19 : decode cX1_declarer 19 = .ok (.iload_n 2, 1) := by decide +kernel
theorem dX1_declarer_20 : decode cX1_declarer 20 = .ok (.invokevirtual 55, 3) := by decide +kernel
theorem dX1_declarer_23 : decode cX1_declarer 23 = .ok (.ifCond .eq 5, 3) := by decide +kernel
theorem dX1_declarer_28 : decode cX1_declarer 28 = .ok (.aload_n 0, 1) := by decide +kernel
theorem dX1_declarer_29 : decode cX1_declarer 29 = .ok (.getfield 15, 3) := by decide +kernel
theorem dX1_declarer_32 : decode cX1_declarer 32 = .ok (.iload_n 3, 1) := by decide +kernel
theorem dX1_declarer_33 : decode cX1_declarer 33 = .ok (.iaload, 1) := by decide +kernel
theorem dX1_declarer_34 : decode cX1_declarer 34 = .ok (.istore_n 3, 1) := by decide +kernel
theorem dX1_declarer_35 : decode cX1_declarer 35 = .ok (.iinc 4 1, 3) := by decide +kernel
theorem dX1_declarer_38 : decode cX1_declarer 38 = .ok (.goto (-33), 3) := by decide +kernel
theorem dX1_declarer_26 : decode cX1_declarer 26 = .ok (.iload_n 3, 1) := by decide +kernel
theorem dX1_declarer_27 : decode cX1_declarer 27 = .ok (.ireturn, 1) := by decide +kernel
theorem dX1_declarer_41 : decode cX1_declarer 41 = .ok (.iconst (-1), 1) := by decide +kernel
theorem dX1_declarer_42 : decode cX1_declarer 42 = .ok (.ireturn, 1) := by decide +kernel
theorem dX4_bind_0 : decode cX4_bind 0 = .ok (.aload_n 0, 1) := by decide +kernel
theorem dX4_bind_1 : decode cX4_bind 1 = .ok (.getfield 9, 3) := by decide +kernel
theorem dX4_bind_4 : decode cX4_bind 4 = .ok (.iload_n 1, 1) := by decide +kernel
theorem dX4_bind_5 : decode cX4_bind 5 = .ok (.iaload, 1) := by decide +kernel
theorem dX4_bind_6 : decode cX4_bind 6 = .ok (.iconst (-1), 1) := by decide +kernel
theorem dX4_bind_7 : decode cX4_bind 7 = .ok (.if_icmp .eq 18, 3) := by decide +kernel
theorem dX4_bind_25 : decode cX4_bind 25 = .ok (.iconst 0, 1) := by decide +kernel
theorem dX4_bind_26 : decode cX4_bind 26 = .ok (.istore_n 2, 1) := by decide +kernel
theorem dX4_bind_27 : decode cX4_bind 27 = .ok (.aload_n 0, 1) := by decide +kernel
theorem dX4_bind_28 : decode cX4_bind 28 = .ok (.getfield 15, 3) := by decide +kernel
theorem dX4_bind_31 : decode cX4_bind 31 = .ok (.iload_n 1, 1) := by decide +kernel
theorem dX4_bind_32 : decode cX4_bind 32 = .ok (.iload_n 2, 1) := by decide +kernel
theorem dX4_bind_33 : decode cX4_bind 33 = .ok (.ifCond .eq 28, 3) := by decide +kernel
theorem dX4_bind_61 : decode cX4_bind 61 = .ok (.iconst (-1), 1) := by decide +kernel
theorem dX4_bind_62 : decode cX4_bind 62 = .ok (.iastore, 1) := by decide +kernel
theorem dX4_bind_63 : decode cX4_bind 63 = .ok (.aload_n 0, 1) := by decide +kernel
theorem dX4_bind_64 : decode cX4_bind 64 = .ok (.getfield 15, 3) := by decide +kernel
theorem dX4_bind_67 : decode cX4_bind 67 = .ok (.iload_n 1, 1) := by decide +kernel
theorem dX4_bind_68 : decode cX4_bind 68 = .ok (.iaload, 1) := by decide +kernel
theorem dX4_bind_69 : decode cX4_bind 69 = .ok (.iconst (-1), 1) := by decide +kernel
theorem dX4_bind_70 : decode cX4_bind 70 = .ok (.if_icmp .ne 25, 3) := by decide +kernel
theorem dX4_bind_95 : decode cX4_bind 95 = .ok (.aload_n 0, 1) := by decide +kernel
theorem dX4_bind_96 : decode cX4_bind 96 = .ok (.getfield 15, 3) := by decide +kernel
theorem dX4_bind_99 : decode cX4_bind 99 = .ok (.iload_n 1, 1) := by decide +kernel
theorem dX4_bind_100 : decode cX4_bind 100 = .ok (.iaload, 1) := by decide +kernel
theorem dX4_bind_101 : decode cX4_bind 101 = .ok (.bipush 16, 2) := by decide +kernel
theorem dX4_bind_103 : decode cX4_bind 103 = .ok (.imul, 1) := by decide +kernel
theorem dX4_bind_104 : decode cX4_bind 104 = .ok (.aload_n 0, 1) := by decide +kernel
theorem dX4_bind_105 : decode cX4_bind 105 = .ok (.getfield 69, 3) := by decide +kernel
theorem dX4_bind_108 : decode cX4_bind 108 = .ok (.getfield 123, 3) := by decide +kernel
theorem dX4_bind_111 : decode cX4_bind 111 = .ok (.iload_n 1, 1) := by decide +kernel
theorem dX4_bind_112 : decode cX4_bind 112 = .ok (.iaload, 1) := by decide +kernel
theorem dX4_bind_113 : decode cX4_bind 113 = .ok (.iadd, 1) := by decide +kernel
theorem dX4_bind_114 : decode cX4_bind 114 = .ok (.istore_n 3, 1) := by decide +kernel
theorem dX4_bind_115 : decode cX4_bind 115 = .ok (.aload_n 0, 1) := by decide +kernel
theorem dX4_bind_116 : decode cX4_bind 116 = .ok (.getfield 18, 3) := by decide +kernel
theorem dX4_bind_119 : decode cX4_bind 119 = .ok (.iload_n 1, 1) := by decide +kernel
theorem dX4_bind_120 : decode cX4_bind 120 = .ok (.aload_n 0, 1) := by decide +kernel
theorem dX4_bind_121 : decode cX4_bind 121 = .ok (.getfield 65, 3) := by decide +kernel
theorem dX4_bind_124 : decode cX4_bind 124 = .ok (.aload_n 0, 1) := by decide +kernel
theorem dX4_bind_125 : decode cX4_bind 125 = .ok (.getfield 15, 3) := by decide +kernel
theorem dX4_bind_128 : decode cX4_bind 128 = .ok (.iload_n 1, 1) := by decide +kernel
theorem dX4_bind_129 : decode cX4_bind 129 = .ok (.iaload, 1) := by decide +kernel
theorem dX4_bind_130 : decode cX4_bind 130 = .ok (.aload_n 0, 1) := by decide +kernel
theorem dX4_bind_131 : decode cX4_bind 131 = .ok (.getfield 9, 3) := by decide +kernel
theorem dX4_bind_134 : decode cX4_bind 134 = .ok (.iload_n 1, 1) := by decide +kernel
theorem dX4_bind_135 : decode cX4_bind 135 = .ok (.iaload, 1) := by decide +kernel
theorem dX4_bind_136 : decode cX4_bind 136 = .ok (.invokevirtual 132, 3) := by decide +kernel
theorem dX4_bind_139 : decode cX4_bind 139 = .ok (.iastore, 1) := by decide +kernel
theorem dX4_bind_140 : decode cX4_bind 140 = .ok (.aload_n 0, 1) := by decide +kernel
theorem dX4_bind_141 : decode cX4_bind 141 = .ok (.getfield 21, 3) := by decide +kernel
theorem dX4_bind_144 : decode cX4_bind 144 = .ok (.iload_n 1, 1) := by decide +kernel
theorem dX4_bind_145 : decode cX4_bind 145 = .ok (.aload_n 0, 1) := by decide +kernel
theorem dX4_bind_146 : decode cX4_bind 146 = .ok (.getfield 65, 3) := by decide +kernel
theorem dX4_bind_149 : decode cX4_bind 149 = .ok (.getfield 135, 3) := by decide +kernel
theorem dX4_bind_152 : decode cX4_bind 152 = .ok (.iload_n 3, 1) := by decide +kernel
theorem dX4_bind_153 : decode cX4_bind 153 = .ok (.iaload, 1) := by decide +kernel
theorem dX4_bind_154 : decode cX4_bind 154 = .ok (.iastore, 1) := by decide +kernel
theorem dX4_bind_155 : decode cX4_bind 155 = .ok (.aload_n 0, 1) := by decide +kernel
theorem dX4_bind_156 : decode cX4_bind 156 = .ok (.getfield 24, 3) := by decide +kernel
theorem dX4_bind_159 : decode cX4_bind 159 = .ok (.iload_n 1, 1) := by decide +kernel
theorem dX4_bind_160 : decode cX4_bind 160 = .ok (.aload_n 0, 1) := by decide +kernel
theorem dX4_bind_161 : decode cX4_bind 161 = .ok (.iload_n 1, 1) := by decide +kernel
theorem dX4_bind_162 : decode cX4_bind 162 = .ok (.invokevirtual 138, 3) := by decide +kernel
theorem dX4_bind_165 : decode cX4_bind 165 = .ok (.ifCond .eq 15, 3) := by decide +kernel
theorem dX4_bind_180 : decode cX4_bind 180 = .ok (.aload_n 0, 1) := by decide +kernel
theorem dX4_bind_181 : decode cX4_bind 181 = .ok (.getfield 65, 3) := by decide +kernel
theorem dX4_bind_184 : decode cX4_bind 184 = .ok (.getfield 144, 3) := by decide +kernel
theorem dX4_bind_187 : decode cX4_bind 187 = .ok (.iload_n 3, 1) := by decide +kernel
theorem dX4_bind_188 : decode cX4_bind 188 = .ok (.iaload, 1) := by decide +kernel
theorem dX4_bind_189 : decode cX4_bind 189 = .ok (.iastore, 1) := by decide +kernel
theorem dX4_bind_190 : decode cX4_bind 190 = .ok (.return_, 1) := by decide +kernel
theorem dX4_bind_168 : decode cX4_bind 168 = .ok (.aload_n 0, 1) := by decide +kernel
theorem dX4_bind_169 : decode cX4_bind 169 = .ok (.getfield 65, 3) := by decide +kernel
theorem dX4_bind_172 : decode cX4_bind 172 = .ok (.getfield 141, 3) := by decide +kernel
theorem dX4_bind_175 : decode cX4_bind 175 = .ok (.iload_n 3, 1) := by decide +kernel
theorem dX4_bind_176 : decode cX4_bind 176 = .ok (.iaload, 1) := by decide +kernel
theorem dX4_bind_177 : decode cX4_bind 177 = .ok (.goto 12, 3) := by decide +kernel
theorem dX4_bind_73 : decode cX4_bind 73 = .ok (.aload_n 0, 1) := by decide +kernel
theorem dX4_bind_74 : decode cX4_bind 74 = .ok (.getfield 18, 3) := by decide +kernel
theorem dX4_bind_77 : decode cX4_bind 77 = .ok (.iload_n 1, 1) := by decide +kernel
theorem dX4_bind_78 : decode cX4_bind 78 = .ok (.iconst (-1), 1) := by decide +kernel
theorem dX4_bind_79 : decode cX4_bind 79 = .ok (.iastore, 1) := by decide +kernel
theorem dX4_bind_80 : decode cX4_bind 80 = .ok (.aload_n 0, 1) := by decide +kernel
theorem dX4_bind_81 : decode cX4_bind 81 = .ok (.getfield 21, 3) := by decide +kernel
theorem dX4_bind_84 : decode cX4_bind 84 = .ok (.iload_n 1, 1) := by decide +kernel
theorem dX4_bind_85 : decode cX4_bind 85 = .ok (.iconst (-1), 1) := by decide +kernel
theorem dX4_bind_86 : decode cX4_bind 86 = .ok (.iastore, 1) := by decide +kernel
theorem dX4_bind_87 : decode cX4_bind 87 = .ok (.aload_n 0, 1) := by decide +kernel
theorem dX4_bind_88 : decode cX4_bind 88 = .ok (.getfield 24, 3) := by decide +kernel
theorem dX4_bind_91 : decode cX4_bind 91 = .ok (.iload_n 1, 1) := by decide +kernel
theorem dX4_bind_92 : decode cX4_bind 92 = .ok (.iconst (-1), 1) := by decide +kernel
theorem dX4_bind_93 : decode cX4_bind 93 = .ok (.iastore, 1) := by decide +kernel
theorem dX4_bind_94 : decode cX4_bind 94 = .ok (.return_, 1) := by decide +kernel
theorem dX4_bind_10 : decode cX4_bind 10 = .ok (.aload_n 0, 1) := by decide +kernel
theorem dX4_bind_11 : decode cX4_bind 11 = .ok (.getfield 69, 3) := by decide +kernel
theorem dX4_bind_14 : decode cX4_bind 14 = .ok (.iload_n 1, 1) := by decide +kernel
theorem dX4_bind_15 : decode cX4_bind 15 = .ok (.invokevirtual 120, 3) := by decide +kernel
theorem dX4_bind_18 : decode cX4_bind 18 = .ok (.ifCond .eq 7, 3) := by decide +kernel
theorem dX4_bind_21 : decode cX4_bind 21 = .ok (.iconst 1, 1) := by decide +kernel
theorem dX4_bind_22 : decode cX4_bind 22 = .ok (.goto 4, 3) := by decide +kernel
theorem dX4_bind_36 : decode cX4_bind 36 = .ok (.aload_n 0, 1) := by decide +kernel
theorem dX4_bind_37 : decode cX4_bind 37 = .ok (.getfield 65, 3) := by decide +kernel
theorem dX4_bind_40 : decode cX4_bind 40 = .ok (.aload_n 0, 1) := by decide +kernel
theorem dX4_bind_41 : decode cX4_bind 41 = .ok (.getfield 9, 3) := by decide +kernel
theorem dX4_bind_44 : decode cX4_bind 44 = .ok (.iload_n 1, 1) := by decide +kernel
theorem dX4_bind_45 : decode cX4_bind 45 = .ok (.iaload, 1) := by decide +kernel
theorem dX4_bind_46 : decode cX4_bind 46 = .ok (.aload_n 0, 1) := by decide +kernel
theorem dX4_bind_47 : decode cX4_bind 47 = .ok (.getfield 69, 3) := by decide +kernel
theorem dX4_bind_50 : decode cX4_bind 50 = .ok (.getfield 123, 3) := by decide +kernel
theorem dX4_bind_53 : decode cX4_bind 53 = .ok (.iload_n 1, 1) := by decide +kernel
theorem dX4_bind_54 : decode cX4_bind 54 = .ok (.iaload, 1) := by decide +kernel
theorem dX4_bind_55 : decode cX4_bind 55 = .ok (.invokevirtual 126, 3) := by decide +kernel
theorem dX4_bind_58 : decode cX4_bind 58 = .ok (.goto 4, 3) := by decide +kernel
theorem dX4_isReckoned_0 : decode cX4_isReckoned 0 = .ok (.iload_n 0, 1) := by decide +kernel
theorem dX4_isReckoned_1 : decode cX4_isReckoned 1 = .ok (.iconst 3, 1) := by decide +kernel
theorem dX4_isReckoned_2 : decode cX4_isReckoned 2 = .ok (.if_icmp .lt 13, 3) := by decide +kernel
theorem dX4_isReckoned_15 : decode cX4_isReckoned 15 = .ok (.iconst 0, 1) := by decide +kernel
theorem dX4_isReckoned_16 : decode cX4_isReckoned 16 = .ok (.ireturn, 1) := by decide +kernel
theorem dX4_isReckoned_5 : decode cX4_isReckoned 5 = .ok (.iload_n 0, 1) := by decide +kernel
theorem dX4_isReckoned_6 : decode cX4_isReckoned 6 = .ok (.bipush 7, 2) := by decide +kernel
theorem dX4_isReckoned_8 : decode cX4_isReckoned 8 = .ok (.if_icmp .gt 7, 3) := by decide +kernel
theorem dX4_isReckoned_11 : decode cX4_isReckoned 11 = .ok (.iconst 1, 1) := by decide +kernel
theorem dX4_isReckoned_12 : decode cX4_isReckoned 12 = .ok (.goto 4, 3) := by decide +kernel
theorem dX4_isKnown_0 : decode cX4_isKnown 0 = .ok (.aload_n 0, 1) := by decide +kernel
theorem dX4_isKnown_1 : decode cX4_isKnown 1 = .ok (.getfield 69, 3) := by decide +kernel
theorem dX4_isKnown_4 : decode cX4_isKnown 4 = .ok (.getfield 101, 3) := by decide +kernel
theorem dX4_isKnown_7 : decode cX4_isKnown 7 = .ok (.iload_n 1, 1) := by decide +kernel
theorem dX4_isKnown_8 : decode cX4_isKnown 8 = .ok (.iaload, 1) := by decide +kernel
theorem dX4_isKnown_9 : decode cX4_isKnown 9 = .ok (.ifCond .eq 12, 3) := by decide +kernel
theorem dX4_isKnown_21 : decode cX4_isKnown 21 = .ok (.iconst 1, 1) := by decide +kernel
theorem dX4_isKnown_22 : decode cX4_isKnown 22 = .ok (.goto 4, 3) := by decide +kernel
theorem dX4_isKnown_26 : decode cX4_isKnown 26 = .ok (.ireturn, 1) := by decide +kernel
theorem dX4_isKnown_12 : decode cX4_isKnown 12 = .ok (.aload_n 0, 1) := by decide +kernel
theorem dX4_isKnown_13 : decode cX4_isKnown 13 = .ok (.getfield 27, 3) := by decide +kernel
theorem dX4_isKnown_16 : decode cX4_isKnown 16 = .ok (.iload_n 1, 1) := by decide +kernel
theorem dX4_isKnown_17 : decode cX4_isKnown 17 = .ok (.baload, 1) := by decide +kernel
theorem dX4_isKnown_18 : decode cX4_isKnown 18 = .ok (.ifCond .eq 7, 3) := by decide +kernel
theorem dX4_isKnown_25 : decode cX4_isKnown 25 = .ok (.iconst 0, 1) := by decide +kernel
theorem dX4_reckon_0 : decode cX4_reckon 0 = .ok (.iload_n 0, 1) := by decide +kernel
theorem dX4_reckon_1 : decode cX4_reckon 1 = .ok (.tableswitch 55 3 6 #[31, 35, 39, 43], 31) := by decide +kernel
theorem dX4_reckon_32 : decode cX4_reckon 32 = .ok (.iload_n 1, 1) := by decide +kernel
theorem dX4_reckon_33 : decode cX4_reckon 33 = .ok (.iload_n 2, 1) := by decide +kernel
theorem dX4_reckon_34 : decode cX4_reckon 34 = .ok (.iadd, 1) := by decide +kernel
theorem dX4_reckon_35 : decode cX4_reckon 35 = .ok (.ireturn, 1) := by decide +kernel
theorem dX4_reckon_36 : decode cX4_reckon 36 = .ok (.iload_n 1, 1) := by decide +kernel
theorem dX4_reckon_37 : decode cX4_reckon 37 = .ok (.iload_n 2, 1) := by decide +kernel
theorem dX4_reckon_38 : decode cX4_reckon 38 = .ok (.isub, 1) := by decide +kernel
theorem dX4_reckon_39 : decode cX4_reckon 39 = .ok (.ireturn, 1) := by decide +kernel
theorem dX4_reckon_40 : decode cX4_reckon 40 = .ok (.iload_n 1, 1) := by decide +kernel
theorem dX4_reckon_41 : decode cX4_reckon 41 = .ok (.iload_n 2, 1) := by decide +kernel
theorem dX4_reckon_42 : decode cX4_reckon 42 = .ok (.imul, 1) := by decide +kernel
theorem dX4_reckon_43 : decode cX4_reckon 43 = .ok (.ireturn, 1) := by decide +kernel
theorem dX4_reckon_44 : decode cX4_reckon 44 = .ok (.iload_n 2, 1) := by decide +kernel
theorem dX4_reckon_45 : decode cX4_reckon 45 = .ok (.ifCond .ne 7, 3) := by decide +kernel
theorem dX4_reckon_52 : decode cX4_reckon 52 = .ok (.iload_n 1, 1) := by decide +kernel
theorem dX4_reckon_53 : decode cX4_reckon 53 = .ok (.iload_n 2, 1) := by decide +kernel
theorem dX4_reckon_54 : decode cX4_reckon 54 = .ok (.idiv, 1) := by decide +kernel
theorem dX4_reckon_55 : decode cX4_reckon 55 = .ok (.ireturn, 1) := by decide +kernel
theorem dX4_reckon_48 : decode cX4_reckon 48 = .ok (.iconst 0, 1) := by decide +kernel
theorem dX4_reckon_49 : decode cX4_reckon 49 = .ok (.goto 6, 3) := by decide +kernel
theorem dX4_reckon_56 : decode cX4_reckon 56 = .ok (.iload_n 1, 1) := by decide +kernel
theorem dX4_reckon_57 : decode cX4_reckon 57 = .ok (.iload_n 2, 1) := by decide +kernel
theorem dX4_reckon_58 : decode cX4_reckon 58 = .ok (.if_icmp .ge 7, 3) := by decide +kernel
theorem dX4_reckon_65 : decode cX4_reckon 65 = .ok (.iconst 0, 1) := by decide +kernel
theorem dX4_reckon_66 : decode cX4_reckon 66 = .ok (.ireturn, 1) := by decide +kernel
theorem dX4_reckon_61 : decode cX4_reckon 61 = .ok (.iconst 1, 1) := by decide +kernel
theorem dX4_reckon_62 : decode cX4_reckon 62 = .ok (.goto 4, 3) := by decide +kernel
theorem dX4_fold_0 : decode cX4_fold 0 = .ok (.aload_n 0, 1) := by decide +kernel
theorem dX4_fold_1 : decode cX4_fold 1 = .ok (.getfield 27, 3) := by decide +kernel
theorem dX4_fold_4 : decode cX4_fold 4 = .ok (.iload_n 1, 1) := by decide +kernel
theorem dX4_fold_5 : decode cX4_fold 5 = .ok (.iconst 0, 1) := by decide +kernel
theorem dX4_fold_6 : decode cX4_fold 6 = .ok (.bastore, 1) := by decide +kernel
theorem dX4_fold_7 : decode cX4_fold 7 = .ok (.aload_n 0, 1) := by decide +kernel
theorem dX4_fold_8 : decode cX4_fold 8 = .ok (.getfield 69, 3) := by decide +kernel
theorem dX4_fold_11 : decode cX4_fold 11 = .ok (.getfield 101, 3) := by decide +kernel
theorem dX4_fold_14 : decode cX4_fold 14 = .ok (.iload_n 1, 1) := by decide +kernel
theorem dX4_fold_15 : decode cX4_fold 15 = .ok (.iaload, 1) := by decide +kernel
theorem dX4_fold_16 : decode cX4_fold 16 = .ok (.ifCond .ne 21, 3) := by decide +kernel
theorem dX4_fold_37 : decode cX4_fold 37 = .ok (.aload_n 0, 1) := by decide +kernel
theorem dX4_fold_38 : decode cX4_fold 38 = .ok (.getfield 69, 3) := by decide +kernel
theorem dX4_fold_41 : decode cX4_fold 41 = .ok (.getfield 101, 3) := by decide +kernel
theorem dX4_fold_44 : decode cX4_fold 44 = .ok (.iload_n 1, 1) := by decide +kernel
theorem dX4_fold_45 : decode cX4_fold 45 = .ok (.iaload, 1) := by decide +kernel
theorem dX4_fold_46 : decode cX4_fold 46 = .ok (.invokestatic 147, 3) := by decide +kernel
theorem dX4_fold_49 : decode cX4_fold 49 = .ok (.ifCond .eq 114, 3) := by decide +kernel
theorem dX4_fold_163 : decode cX4_fold 163 = .ok (.return_, 1) := by decide +kernel
theorem dX4_fold_52 : decode cX4_fold 52 = .ok (.aload_n 0, 1) := by decide +kernel
theorem dX4_fold_53 : decode cX4_fold 53 = .ok (.aload_n 0, 1) := by decide +kernel
theorem dX4_fold_54 : decode cX4_fold 54 = .ok (.getfield 69, 3) := by decide +kernel
theorem dX4_fold_57 : decode cX4_fold 57 = .ok (.getfield 150, 3) := by decide +kernel
theorem dX4_fold_60 : decode cX4_fold 60 = .ok (.iload_n 1, 1) := by decide +kernel
theorem dX4_fold_61 : decode cX4_fold 61 = .ok (.iaload, 1) := by decide +kernel
theorem dX4_fold_62 : decode cX4_fold 62 = .ok (.invokevirtual 153, 3) := by decide +kernel
theorem dX4_fold_65 : decode cX4_fold 65 = .ok (.ifCond .eq 98, 3) := by decide +kernel
theorem dX4_fold_68 : decode cX4_fold 68 = .ok (.aload_n 0, 1) := by decide +kernel
theorem dX4_fold_69 : decode cX4_fold 69 = .ok (.aload_n 0, 1) := by decide +kernel
theorem dX4_fold_70 : decode cX4_fold 70 = .ok (.getfield 69, 3) := by decide +kernel
theorem dX4_fold_73 : decode cX4_fold 73 = .ok (.getfield 156, 3) := by decide +kernel
theorem dX4_fold_76 : decode cX4_fold 76 = .ok (.iload_n 1, 1) := by decide +kernel
theorem dX4_fold_77 : decode cX4_fold 77 = .ok (.iaload, 1) := by decide +kernel
theorem dX4_fold_78 : decode cX4_fold 78 = .ok (.invokevirtual 153, 3) := by decide +kernel
theorem dX4_fold_81 : decode cX4_fold 81 = .ok (.ifCond .eq 82, 3) := by decide +kernel
theorem dX4_fold_84 : decode cX4_fold 84 = .ok (.aload_n 0, 1) := by decide +kernel
theorem dX4_fold_85 : decode cX4_fold 85 = .ok (.getfield 31, 3) := by decide +kernel
theorem dX4_fold_88 : decode cX4_fold 88 = .ok (.aload_n 0, 1) := by decide +kernel
theorem dX4_fold_89 : decode cX4_fold 89 = .ok (.getfield 69, 3) := by decide +kernel
theorem dX4_fold_92 : decode cX4_fold 92 = .ok (.getfield 150, 3) := by decide +kernel
theorem dX4_fold_95 : decode cX4_fold 95 = .ok (.iload_n 1, 1) := by decide +kernel
theorem dX4_fold_96 : decode cX4_fold 96 = .ok (.iaload, 1) := by decide +kernel
theorem dX4_fold_97 : decode cX4_fold 97 = .ok (.iaload, 1) := by decide +kernel
theorem dX4_fold_98 : decode cX4_fold 98 = .ok (.istore_n 2, 1) := by decide +kernel
theorem dX4_fold_99 : decode cX4_fold 99 = .ok (.aload_n 0, 1) := by decide +kernel
theorem dX4_fold_100 : decode cX4_fold 100 = .ok (.getfield 31, 3) := by decide +kernel
theorem dX4_fold_103 : decode cX4_fold 103 = .ok (.aload_n 0, 1) := by decide +kernel
theorem dX4_fold_104 : decode cX4_fold 104 = .ok (.getfield 69, 3) := by decide +kernel
theorem dX4_fold_107 : decode cX4_fold 107 = .ok (.getfield 156, 3) := by decide +kernel
theorem dX4_fold_110 : decode cX4_fold 110 = .ok (.iload_n 1, 1) := by decide +kernel
theorem dX4_fold_111 : decode cX4_fold 111 = .ok (.iaload, 1) := by decide +kernel
theorem dX4_fold_112 : decode cX4_fold 112 = .ok (.iaload, 1) := by decide +kernel
theorem dX4_fold_113 : decode cX4_fold 113 = .ok (.istore_n 3, 1) := by decide +kernel
theorem dX4_fold_114 : decode cX4_fold 114 = .ok (.aload_n 0, 1) := by decide +kernel
theorem dX4_fold_115 : decode cX4_fold 115 = .ok (.getfield 27, 3) := by decide +kernel
theorem dX4_fold_118 : decode cX4_fold 118 = .ok (.iload_n 1, 1) := by decide +kernel
theorem dX4_fold_119 : decode cX4_fold 119 = .ok (.aload_n 0, 1) := by decide +kernel
theorem dX4_fold_120 : decode cX4_fold 120 = .ok (.getfield 69, 3) := by decide +kernel
theorem dX4_fold_123 : decode cX4_fold 123 = .ok (.getfield 101, 3) := by decide +kernel
theorem dX4_fold_126 : decode cX4_fold 126 = .ok (.iload_n 1, 1) := by decide +kernel
theorem dX4_fold_127 : decode cX4_fold 127 = .ok (.iaload, 1) := by decide +kernel
theorem dX4_fold_128 : decode cX4_fold 128 = .ok (.bipush 6, 2) := by decide +kernel
theorem dX4_fold_130 : decode cX4_fold 130 = .ok (.if_icmp .ne 7, 3) := by decide +kernel
theorem dX4_fold_137 : decode cX4_fold 137 = .ok (.iconst 1, 1) := by decide +kernel
theorem dX4_fold_138 : decode cX4_fold 138 = .ok (.goto 4, 3) := by decide +kernel
theorem dX4_fold_142 : decode cX4_fold 142 = .ok (.bastore, 1) := by decide +kernel
theorem dX4_fold_143 : decode cX4_fold 143 = .ok (.aload_n 0, 1) := by decide +kernel
theorem dX4_fold_144 : decode cX4_fold 144 = .ok (.getfield 31, 3) := by decide +kernel
theorem dX4_fold_147 : decode cX4_fold 147 = .ok (.iload_n 1, 1) := by decide +kernel
theorem dX4_fold_148 : decode cX4_fold 148 = .ok (.aload_n 0, 1) := by decide +kernel
theorem dX4_fold_149 : decode cX4_fold 149 = .ok (.getfield 69, 3) := by decide +kernel
theorem dX4_fold_152 : decode cX4_fold 152 = .ok (.getfield 101, 3) := by decide +kernel
theorem dX4_fold_155 : decode cX4_fold 155 = .ok (.iload_n 1, 1) := by decide +kernel
theorem dX4_fold_156 : decode cX4_fold 156 = .ok (.iaload, 1) := by decide +kernel
theorem dX4_fold_157 : decode cX4_fold 157 = .ok (.iload_n 2, 1) := by decide +kernel
theorem dX4_fold_158 : decode cX4_fold 158 = .ok (.iload_n 3, 1) := by decide +kernel
theorem dX4_fold_159 : decode cX4_fold 159 = .ok (.invokestatic 159, 3) := by decide +kernel
theorem dX4_fold_162 : decode cX4_fold 162 = .ok (.iastore, 1) := by decide +kernel
theorem dX4_fold_133 : decode cX4_fold 133 = .ok (.iload_n 3, 1) := by decide +kernel
theorem dX4_fold_134 : decode cX4_fold 134 = .ok (.ifCond .eq 7, 3) := by decide +kernel
theorem dX4_fold_141 : decode cX4_fold 141 = .ok (.iconst 0, 1) := by decide +kernel
theorem dX4_fold_19 : decode cX4_fold 19 = .ok (.aload_n 0, 1) := by decide +kernel
theorem dX4_fold_20 : decode cX4_fold 20 = .ok (.getfield 31, 3) := by decide +kernel
theorem dX4_fold_23 : decode cX4_fold 23 = .ok (.iload_n 1, 1) := by decide +kernel
theorem dX4_fold_24 : decode cX4_fold 24 = .ok (.aload_n 0, 1) := by decide +kernel
theorem dX4_fold_25 : decode cX4_fold 25 = .ok (.getfield 69, 3) := by decide +kernel
theorem dX4_fold_28 : decode cX4_fold 28 = .ok (.getfield 123, 3) := by decide +kernel
theorem dX4_fold_31 : decode cX4_fold 31 = .ok (.iload_n 1, 1) := by decide +kernel
theorem dX4_fold_32 : decode cX4_fold 32 = .ok (.iaload, 1) := by decide +kernel
theorem dX4_fold_33 : decode cX4_fold 33 = .ok (.iastore, 1) := by decide +kernel
theorem dX4_fold_34 : decode cX4_fold 34 = .ok (.goto 129, 3) := by decide +kernel
theorem dX4_findHandedOn_0 : decode cX4_findHandedOn 0 = .ok (.aload_n 0, 1) := by decide +kernel
theorem dX4_findHandedOn_1 : decode cX4_findHandedOn 1 = .ok (.getfield 49, 3) := by decide +kernel
theorem dX4_findHandedOn_4 : decode cX4_findHandedOn 4 = .ok (.iconst 0, 1) := by decide +kernel
theorem dX4_findHandedOn_5 : decode cX4_findHandedOn 5 = .ok (.invokestatic 163, 3) := by decide +kernel
theorem dX4_findHandedOn_8 : decode cX4_findHandedOn 8 = .ok (.iconst 0, 1) := by decide +kernel
theorem dX4_findHandedOn_9 : decode cX4_findHandedOn 9 = .ok (.istore_n 1, 1) := by decide +kernel
theorem dX4_findHandedOn_10 : decode cX4_findHandedOn 10 = .ok (.iload_n 1, 1) := by decide +kernel
theorem dX4_findHandedOn_11 : decode cX4_findHandedOn 11 = .ok (.bipush 10, 2) := by decide +kernel
theorem dX4_findHandedOn_13 : decode cX4_findHandedOn 13 = .ok (.if_icmp .ge 16, 3) := by decide +kernel
theorem dX4_findHandedOn_16 : decode cX4_findHandedOn 16 = .ok (.aload_n 0, 1) := by decide +kernel
theorem dX4_findHandedOn_17 : decode cX4_findHandedOn 17 = .ok (.getfield 46, 3) := by decide +kernel
theorem dX4_findHandedOn_20 : decode cX4_findHandedOn 20 = .ok (.iload_n 1, 1) := by decide +kernel
theorem dX4_findHandedOn_21 : decode cX4_findHandedOn 21 = .ok (.iconst 0, 1) := by decide +kernel
theorem dX4_findHandedOn_22 : decode cX4_findHandedOn 22 = .ok (.bastore, 1) := by decide +kernel
theorem dX4_findHandedOn_23 : decode cX4_findHandedOn 23 = .ok (.iinc 1 1, 3) := by decide +kernel
theorem dX4_findHandedOn_26 : decode cX4_findHandedOn 26 = .ok (.goto (-16), 3) := by decide +kernel
theorem dX4_findHandedOn_29 : decode cX4_findHandedOn 29 = .ok (.iconst 0, 1) := by decide +kernel
theorem dX4_findHandedOn_30 : decode cX4_findHandedOn 30 = .ok (.istore_n 1, 1) := by decide +kernel
theorem dX4_findHandedOn_31 : decode cX4_findHandedOn 31 = .ok (.iload_n 1, 1) := by decide +kernel
theorem dX4_findHandedOn_32 : decode cX4_findHandedOn 32 = .ok (.aload_n 0, 1) := by decide +kernel
theorem dX4_findHandedOn_33 : decode cX4_findHandedOn 33 = .ok (.getfield 69, 3) := by decide +kernel
theorem dX4_findHandedOn_36 : decode cX4_findHandedOn 36 = .ok (.getfield 76, 3) := by decide +kernel
theorem dX4_findHandedOn_39 : decode cX4_findHandedOn 39 = .ok (.if_icmp .ge 46, 3) := by decide +kernel
theorem dX4_findHandedOn_42 : decode cX4_findHandedOn 42 = .ok (.aload_n 0, 1) := by decide +kernel
theorem dX4_findHandedOn_43 : decode cX4_findHandedOn 43 = .ok (.getfield 69, 3) := by decide +kernel
theorem dX4_findHandedOn_46 : decode cX4_findHandedOn 46 = .ok (.getfield 101, 3) := by decide +kernel
theorem dX4_findHandedOn_49 : decode cX4_findHandedOn 49 = .ok (.iload_n 1, 1) := by decide +kernel
theorem dX4_findHandedOn_50 : decode cX4_findHandedOn 50 = .ok (.iaload, 1) := by decide +kernel
theorem dX4_findHandedOn_51 : decode cX4_findHandedOn 51 = .ok (.bipush 10, 2) := by decide +kernel
theorem dX4_findHandedOn_53 : decode cX4_findHandedOn 53 = .ok (.if_icmp .ne 26, 3) := by decide +kernel
theorem dX4_findHandedOn_79 : decode cX4_findHandedOn 79 = .ok (.iinc 1 1, 3) := by decide +kernel
theorem dX4_findHandedOn_82 : decode cX4_findHandedOn 82 = .ok (.goto (-51), 3) := by decide +kernel
theorem dX4_findHandedOn_56 : decode cX4_findHandedOn 56 = .ok (.aload_n 0, 1) := by decide +kernel
theorem dX4_findHandedOn_57 : decode cX4_findHandedOn 57 = .ok (.getfield 21, 3) := by decide +kernel
theorem dX4_findHandedOn_60 : decode cX4_findHandedOn 60 = .ok (.iload_n 1, 1) := by decide +kernel
theorem dX4_findHandedOn_61 : decode cX4_findHandedOn 61 = .ok (.iaload, 1) := by decide +kernel
theorem dX4_findHandedOn_62 : decode cX4_findHandedOn 62 = .ok (.bipush 10, 2) := by decide +kernel
theorem dX4_findHandedOn_64 : decode cX4_findHandedOn 64 = .ok (.if_icmp .ne 15, 3) := by decide +kernel
theorem dX4_findHandedOn_67 : decode cX4_findHandedOn 67 = .ok (.aload_n 0, 1) := by decide +kernel
theorem dX4_findHandedOn_68 : decode cX4_findHandedOn 68 = .ok (.getfield 46, 3) := by decide +kernel
theorem dX4_findHandedOn_71 : decode cX4_findHandedOn 71 = .ok (.aload_n 0, 1) := by decide +kernel
theorem dX4_findHandedOn_72 : decode cX4_findHandedOn 72 = .ok (.getfield 24, 3) := by decide +kernel
theorem dX4_findHandedOn_75 : decode cX4_findHandedOn 75 = .ok (.iload_n 1, 1) := by decide +kernel
theorem dX4_findHandedOn_76 : decode cX4_findHandedOn 76 = .ok (.iaload, 1) := by decide +kernel
theorem dX4_findHandedOn_77 : decode cX4_findHandedOn 77 = .ok (.iconst 1, 1) := by decide +kernel
theorem dX4_findHandedOn_78 : decode cX4_findHandedOn 78 = .ok (.bastore, 1) := by decide +kernel
theorem dX4_findHandedOn_85 : decode cX4_findHandedOn 85 = .ok (.return_, 1) := by decide +kernel
theorem dX4_isOutliving_0 : decode cX4_isOutliving 0 = .ok (.iload_n 1, 1) := by decide +kernel
theorem dX4_isOutliving_1 : decode cX4_isOutliving 1 = .ok (.istore_n 3, 1) := by decide +kernel
theorem dX4_isOutliving_2 : decode cX4_isOutliving 2 = .ok (.iconst 0, 1) := by decide +kernel
theorem dX4_isOutliving_3 : decode cX4_isOutliving 3 = .ok (.istore 4, 2) := by decide +kernel
theorem dX4_isOutliving_5 : decode cX4_isOutliving 5 = .ok (.iload 4, 2) := by decide +kernel
theorem dX4_isOutliving_7 : decode cX4_isOutliving 7 = .ok (.bipush 10, 2) := by decide +kernel
theorem dX4_isOutliving_9 : decode cX4_isOutliving 9 = .ok (.if_icmp .ge 40, 3) := by decide +kernel
theorem dX4_isOutliving_12 : decode cX4_isOutliving 12 = .ok (.iload_n 3, 1) := by decide +kernel
theorem dX4_isOutliving_13 : decode cX4_isOutliving 13 = .ok (.iload_n 2, 1) := by decide +kernel
theorem dX4_isOutliving_14 : decode cX4_isOutliving 14 = .ok (.if_icmp .eq 35, 3) := by decide +kernel
theorem dX4_isOutliving_17 : decode cX4_isOutliving 17 = .ok (.iload_n 3, 1) := by decide +kernel
theorem dX4_isOutliving_18 : decode cX4_isOutliving 18 = .ok (.iconst (-1), 1) := by decide +kernel
theorem dX4_isOutliving_19 : decode cX4_isOutliving 19 = .ok (.if_icmp .eq 30, 3) := by decide +kernel
theorem dX4_isOutliving_22 : decode cX4_isOutliving 22 = .ok (.aload_n 0, 1) := by decide +kernel
theorem dX4_isOutliving_23 : decode cX4_isOutliving 23 = .ok (.getfield 46, 3) := by decide +kernel
theorem dX4_isOutliving_26 : decode cX4_isOutliving 26 = .ok (.iload_n 3, 1) := by decide +kernel
theorem dX4_isOutliving_27 : decode cX4_isOutliving 27 = .ok (.baload, 1) := by decide +kernel
theorem dX4_isOutliving_28 : decode cX4_isOutliving 28 = .ok (.ifCond .eq 5, 3) := by decide +kernel
theorem dX4_isOutliving_33 : decode cX4_isOutliving 33 = .ok (.aload_n 0, 1) := by decide +kernel
theorem dX4_isOutliving_34 : decode cX4_isOutliving 34 = .ok (.getfield 65, 3) := by decide +kernel
theorem dX4_isOutliving_37 : decode cX4_isOutliving 37 = .ok (.getfield 173, 3) := by decide +kernel
theorem dX4_isOutliving_40 : decode cX4_isOutliving 40 = .ok (.iload_n 3, 1) := by decide +kernel
theorem dX4_isOutliving_41 : decode cX4_isOutliving 41 = .ok (.iaload, 1) := by decide +kernel
theorem dX4_isOutliving_42 : decode cX4_isOutliving 42 = .ok (.istore_n 3, 1) := by decide +kernel
theorem dX4_isOutliving_43 : decode cX4_isOutliving 43 = .ok (.iinc 4 1, 3) := by decide +kernel
theorem dX4_isOutliving_46 : decode cX4_isOutliving 46 = .ok (.goto (-41), 3) := by decide +kernel
theorem dX4_isOutliving_31 : decode cX4_isOutliving 31 = .ok (.iconst 1, 1) := by decide +kernel
theorem dX4_isOutliving_32 : decode cX4_isOutliving 32 = .ok (.ireturn, 1) := by decide +kernel
theorem dX4_isOutliving_49 : decode cX4_isOutliving 49 = .ok (.iconst 0, 1) := by decide +kernel
theorem dX4_isOutliving_50 : decode cX4_isOutliving 50 = .ok (.ireturn, 1) := by decide +kernel
theorem dX4_findEscapes_0 : decode cX4_findEscapes 0 = .ok (.iconst 0, 1) := by decide +kernel
theorem dX4_findEscapes_1 : decode cX4_findEscapes 1 = .ok (.istore_n 1, 1) := by decide +kernel
theorem dX4_findEscapes_2 : decode cX4_findEscapes 2 = .ok (.iload_n 1, 1) := by decide +kernel
theorem dX4_findEscapes_3 : decode cX4_findEscapes 3 = .ok (.aload_n 0, 1) := by decide +kernel
theorem dX4_findEscapes_4 : decode cX4_findEscapes 4 = .ok (.getfield 69, 3) := by decide +kernel
theorem dX4_findEscapes_7 : decode cX4_findEscapes 7 = .ok (.getfield 76, 3) := by decide +kernel
theorem dX4_findEscapes_10 : decode cX4_findEscapes 10 = .ok (.if_icmp .ge 58, 3) := by decide +kernel
theorem dX4_findEscapes_13 : decode cX4_findEscapes 13 = .ok (.aload_n 0, 1) := by decide +kernel
theorem dX4_findEscapes_14 : decode cX4_findEscapes 14 = .ok (.iload_n 1, 1) := by decide +kernel
theorem dX4_findEscapes_15 : decode cX4_findEscapes 15 = .ok (.invokevirtual 138, 3) := by decide +kernel
theorem dX4_findEscapes_18 : decode cX4_findEscapes 18 = .ok (.ifCond .eq 44, 3) := by decide +kernel
theorem dX4_findEscapes_62 : decode cX4_findEscapes 62 = .ok (.iinc 1 1, 3) := by decide +kernel
theorem dX4_findEscapes_65 : decode cX4_findEscapes 65 = .ok (.goto (-63), 3) := by decide +kernel
theorem dX4_findEscapes_21 : decode cX4_findEscapes 21 = .ok (.aload_n 0, 1) := by decide +kernel
theorem dX4_findEscapes_22 : decode cX4_findEscapes 22 = .ok (.aload_n 0, 1) := by decide +kernel
theorem dX4_findEscapes_23 : decode cX4_findEscapes 23 = .ok (.getfield 9, 3) := by decide +kernel
theorem dX4_findEscapes_26 : decode cX4_findEscapes 26 = .ok (.iload_n 1, 1) := by decide +kernel
theorem dX4_findEscapes_27 : decode cX4_findEscapes 27 = .ok (.iaload, 1) := by decide +kernel
theorem dX4_findEscapes_28 : decode cX4_findEscapes 28 = .ok (.aload_n 0, 1) := by decide +kernel
theorem dX4_findEscapes_29 : decode cX4_findEscapes 29 = .ok (.getfield 15, 3) := by decide +kernel
theorem dX4_findEscapes_32 : decode cX4_findEscapes 32 = .ok (.iload_n 1, 1) := by decide +kernel
theorem dX4_findEscapes_33 : decode cX4_findEscapes 33 = .ok (.iaload, 1) := by decide +kernel
theorem dX4_findEscapes_34 : decode cX4_findEscapes 34 = .ok (.invokevirtual 169, 3) := by decide +kernel
theorem dX4_findEscapes_37 : decode cX4_findEscapes 37 = .ok (.ifCond .eq 25, 3) := by decide +kernel
theorem dX4_findEscapes_40 : decode cX4_findEscapes 40 = .ok (.aload_n 0, 1) := by decide +kernel
theorem dX4_findEscapes_41 : decode cX4_findEscapes 41 = .ok (.getfield 49, 3) := by decide +kernel
theorem dX4_findEscapes_44 : decode cX4_findEscapes 44 = .ok (.aload_n 0, 1) := by decide +kernel
theorem dX4_findEscapes_45 : decode cX4_findEscapes 45 = .ok (.getfield 15, 3) := by decide +kernel
theorem dX4_findEscapes_48 : decode cX4_findEscapes 48 = .ok (.iload_n 1, 1) := by decide +kernel
theorem dX4_findEscapes_49 : decode cX4_findEscapes 49 = .ok (.iaload, 1) := by decide +kernel
theorem dX4_findEscapes_50 : decode cX4_findEscapes 50 = .ok (.dup2, 1) := by decide +kernel
theorem dX4_findEscapes_51 : decode cX4_findEscapes 51 = .ok (.iaload, 1) := by decide +kernel
theorem dX4_findEscapes_52 : decode cX4_findEscapes 52 = .ok (.iconst 1, 1) := by decide +kernel
theorem dX4_findEscapes_53 : decode cX4_findEscapes 53 = .ok (.aload_n 0, 1) := by decide +kernel
theorem dX4_findEscapes_54 : decode cX4_findEscapes 54 = .ok (.getfield 24, 3) := by decide +kernel
theorem dX4_findEscapes_57 : decode cX4_findEscapes 57 = .ok (.iload_n 1, 1) := by decide +kernel
theorem dX4_findEscapes_58 : decode cX4_findEscapes 58 = .ok (.iaload, 1) := by decide +kernel
theorem dX4_findEscapes_59 : decode cX4_findEscapes 59 = .ok (.ishl, 1) := by decide +kernel
theorem dX4_findEscapes_60 : decode cX4_findEscapes 60 = .ok (.ior, 1) := by decide +kernel
theorem dX4_findEscapes_61 : decode cX4_findEscapes 61 = .ok (.iastore, 1) := by decide +kernel
theorem dX4_findEscapes_68 : decode cX4_findEscapes 68 = .ok (.return_, 1) := by decide +kernel
theorem dX4_findLabels_0 : decode cX4_findLabels 0 = .ok (.aload_n 0, 1) := by decide +kernel
theorem dX4_findLabels_1 : decode cX4_findLabels 1 = .ok (.getfield 43, 3) := by decide +kernel
theorem dX4_findLabels_4 : decode cX4_findLabels 4 = .ok (.iconst 0, 1) := by decide +kernel
theorem dX4_findLabels_5 : decode cX4_findLabels 5 = .ok (.invokestatic 163, 3) := by decide +kernel
theorem dX4_findLabels_8 : decode cX4_findLabels 8 = .ok (.iconst 0, 1) := by decide +kernel
theorem dX4_findLabels_9 : decode cX4_findLabels 9 = .ok (.istore_n 1, 1) := by decide +kernel
theorem dX4_findLabels_10 : decode cX4_findLabels 10 = .ok (.iload_n 1, 1) := by decide +kernel
theorem dX4_findLabels_11 : decode cX4_findLabels 11 = .ok (.aload_n 0, 1) := by decide +kernel
theorem dX4_findLabels_12 : decode cX4_findLabels 12 = .ok (.getfield 69, 3) := by decide +kernel
theorem dX4_findLabels_15 : decode cX4_findLabels 15 = .ok (.getfield 76, 3) := by decide +kernel
theorem dX4_findLabels_18 : decode cX4_findLabels 18 = .ok (.if_icmp .ge 58, 3) := by decide +kernel
theorem dX4_findLabels_21 : decode cX4_findLabels 21 = .ok (.aload_n 0, 1) := by decide +kernel
theorem dX4_findLabels_22 : decode cX4_findLabels 22 = .ok (.getfield 69, 3) := by decide +kernel
theorem dX4_findLabels_25 : decode cX4_findLabels 25 = .ok (.getfield 101, 3) := by decide +kernel
theorem dX4_findLabels_28 : decode cX4_findLabels 28 = .ok (.iload_n 1, 1) := by decide +kernel
theorem dX4_findLabels_29 : decode cX4_findLabels 29 = .ok (.iaload, 1) := by decide +kernel
theorem dX4_findLabels_30 : decode cX4_findLabels 30 = .ok (.bipush 16, 2) := by decide +kernel
theorem dX4_findLabels_32 : decode cX4_findLabels 32 = .ok (.if_icmp .ne 38, 3) := by decide +kernel
theorem dX4_findLabels_70 : decode cX4_findLabels 70 = .ok (.iinc 1 1, 3) := by decide +kernel
theorem dX4_findLabels_73 : decode cX4_findLabels 73 = .ok (.goto (-63), 3) := by decide +kernel
theorem dX4_findLabels_35 : decode cX4_findLabels 35 = .ok (.aload_n 0, 1) := by decide +kernel
theorem dX4_findLabels_36 : decode cX4_findLabels 36 = .ok (.getfield 9, 3) := by decide +kernel
theorem dX4_findLabels_39 : decode cX4_findLabels 39 = .ok (.iload_n 1, 1) := by decide +kernel
theorem dX4_findLabels_40 : decode cX4_findLabels 40 = .ok (.iaload, 1) := by decide +kernel
theorem dX4_findLabels_41 : decode cX4_findLabels 41 = .ok (.iconst (-1), 1) := by decide +kernel
theorem dX4_findLabels_42 : decode cX4_findLabels 42 = .ok (.if_icmp .eq 28, 3) := by decide +kernel
theorem dX4_findLabels_45 : decode cX4_findLabels 45 = .ok (.aload_n 0, 1) := by decide +kernel
theorem dX4_findLabels_46 : decode cX4_findLabels 46 = .ok (.getfield 43, 3) := by decide +kernel
theorem dX4_findLabels_49 : decode cX4_findLabels 49 = .ok (.aload_n 0, 1) := by decide +kernel
theorem dX4_findLabels_50 : decode cX4_findLabels 50 = .ok (.getfield 9, 3) := by decide +kernel
theorem dX4_findLabels_53 : decode cX4_findLabels 53 = .ok (.iload_n 1, 1) := by decide +kernel
theorem dX4_findLabels_54 : decode cX4_findLabels 54 = .ok (.iaload, 1) := by decide +kernel
theorem dX4_findLabels_55 : decode cX4_findLabels 55 = .ok (.dup2, 1) := by decide +kernel
theorem dX4_findLabels_56 : decode cX4_findLabels 56 = .ok (.iaload, 1) := by decide +kernel
theorem dX4_findLabels_57 : decode cX4_findLabels 57 = .ok (.iconst 1, 1) := by decide +kernel
theorem dX4_findLabels_58 : decode cX4_findLabels 58 = .ok (.aload_n 0, 1) := by decide +kernel
theorem dX4_findLabels_59 : decode cX4_findLabels 59 = .ok (.getfield 69, 3) := by decide +kernel
theorem dX4_findLabels_62 : decode cX4_findLabels 62 = .ok (.getfield 123, 3) := by decide +kernel
theorem dX4_findLabels_65 : decode cX4_findLabels 65 = .ok (.iload_n 1, 1) := by decide +kernel
theorem dX4_findLabels_66 : decode cX4_findLabels 66 = .ok (.iaload, 1) := by decide +kernel
theorem dX4_findLabels_67 : decode cX4_findLabels 67 = .ok (.ishl, 1) := by decide +kernel
theorem dX4_findLabels_68 : decode cX4_findLabels 68 = .ok (.ior, 1) := by decide +kernel
theorem dX4_findLabels_69 : decode cX4_findLabels 69 = .ok (.iastore, 1) := by decide +kernel
theorem dX4_findLabels_76 : decode cX4_findLabels 76 = .ok (.return_, 1) := by decide +kernel
theorem dX1_takesValuesAlone_0 : decode cX1_takesValuesAlone 0 = .ok (.iconst 0, 1) := by decide +kernel
theorem dX1_takesValuesAlone_1 : decode cX1_takesValuesAlone 1 = .ok (.istore_n 2, 1) := by decide +kernel
theorem dX1_takesValuesAlone_2 : decode cX1_takesValuesAlone 2 = .ok (.iload_n 2, 1) := by decide +kernel
theorem dX1_takesValuesAlone_3 : decode cX1_takesValuesAlone 3 = .ok (.aload_n 0, 1) := by decide +kernel
theorem dX1_takesValuesAlone_4 : decode cX1_takesValuesAlone 4 = .ok (.getfield 22, 3) := by decide +kernel
theorem dX1_takesValuesAlone_7 : decode cX1_takesValuesAlone 7 = .ok (.iload_n 1, 1) := by decide +kernel
theorem dX1_takesValuesAlone_8 : decode cX1_takesValuesAlone 8 = .ok (.iaload, 1) := by decide +kernel
theorem dX1_takesValuesAlone_9 : decode cX1_takesValuesAlone 9 = .ok (.if_icmp .ge 25, 3) := by decide +kernel
theorem dX1_takesValuesAlone_12 : decode cX1_takesValuesAlone 12 = .ok (.aload_n 0, 1) := by decide +kernel
theorem dX1_takesValuesAlone_13 : decode cX1_takesValuesAlone 13 = .ok (.getfield 43, 3) := by decide +kernel
theorem dX1_takesValuesAlone_16 : decode cX1_takesValuesAlone 16 = .ok (.iload_n 1, 1) := by decide +kernel
theorem dX1_takesValuesAlone_17 : decode cX1_takesValuesAlone 17 = .ok (.bipush 10, 2) := by decide +kernel
theorem dX1_takesValuesAlone_19 : decode cX1_takesValuesAlone 19 = .ok (.imul, 1) := by decide +kernel
theorem dX1_takesValuesAlone_20 : decode cX1_takesValuesAlone 20 = .ok (.iload_n 2, 1) := by decide +kernel
theorem dX1_takesValuesAlone_21 : decode cX1_takesValuesAlone 21 = .ok (.iadd, 1) := by decide +kernel
theorem dX1_takesValuesAlone_22 : decode cX1_takesValuesAlone 22 = .ok (.iaload, 1) := by decide +kernel
theorem dX1_takesValuesAlone_23 : decode cX1_takesValuesAlone 23 = .ok (.ifCond .eq 5, 3) := by decide +kernel
theorem dX1_takesValuesAlone_28 : decode cX1_takesValuesAlone 28 = .ok (.iinc 2 1, 3) := by decide +kernel
theorem dX1_takesValuesAlone_31 : decode cX1_takesValuesAlone 31 = .ok (.goto (-29), 3) := by decide +kernel
theorem dX1_takesValuesAlone_26 : decode cX1_takesValuesAlone 26 = .ok (.iconst 0, 1) := by decide +kernel
theorem dX1_takesValuesAlone_27 : decode cX1_takesValuesAlone 27 = .ok (.ireturn, 1) := by decide +kernel
theorem dX1_takesValuesAlone_34 : decode cX1_takesValuesAlone 34 = .ok (.iconst 1, 1) := by decide +kernel
theorem dX1_takesValuesAlone_35 : decode cX1_takesValuesAlone 35 = .ok (.ireturn, 1) := by decide +kernel
theorem dX1_isInside_0 : decode cX1_isInside 0 = .ok (.aload_n 0, 1) := by decide +kernel
theorem dX1_isInside_1 : decode cX1_isInside 1 = .ok (.getfield 15, 3) := by decide +kernel
theorem dX1_isInside_4 : decode cX1_isInside 4 = .ok (.iload_n 1, 1) := by decide +kernel
theorem dX1_isInside_5 : decode cX1_isInside 5 = .ok (.iaload, 1) := by decide +kernel
theorem dX1_isInside_6 : decode cX1_isInside 6 = .ok (.istore_n 3, 1) := by decide +kernel
theorem dX1_isInside_7 : decode cX1_isInside 7 = .ok (.iconst 0, 1) := by decide +kernel
theorem dX1_isInside_8 : decode cX1_isInside 8 = .ok (.istore 4, 2) := by decide +kernel
theorem dX1_isInside_10 : decode cX1_isInside 10 = .ok (.iload 4, 2) := by decide +kernel
theorem dX1_isInside_12 : decode cX1_isInside 12 = .ok (.bipush 10, 2) := by decide +kernel
theorem dX1_isInside_14 : decode cX1_isInside 14 = .ok (.if_icmp .ge 28, 3) := by decide +kernel
theorem dX1_isInside_17 : decode cX1_isInside 17 = .ok (.iload_n 3, 1) := by decide +kernel
theorem dX1_isInside_18 : decode cX1_isInside 18 = .ok (.iconst (-1), 1) := by decide +kernel
theorem dX1_isInside_19 : decode cX1_isInside 19 = .ok (.if_icmp .eq 23, 3) := by decide +kernel
theorem dX1_isInside_22 : decode cX1_isInside 22 = .ok (.iload_n 3, 1) := by decide +kernel
theorem dX1_isInside_23 : decode cX1_isInside 23 = .ok (.iload_n 2, 1) := by decide +kernel
theorem dX1_isInside_24 : decode cX1_isInside 24 = .ok (.if_icmp .ne 5, 3) := by decide +kernel
theorem dX1_isInside_29 : decode cX1_isInside 29 = .ok (.aload_n 0, 1) := by decide +kernel
theorem dX1_isInside_30 : decode cX1_isInside 30 = .ok (.getfield 15, 3) := by decide +kernel
theorem dX1_isInside_33 : decode cX1_isInside 33 = .ok (.iload_n 3, 1) := by decide +kernel
theorem dX1_isInside_34 : decode cX1_isInside 34 = .ok (.iaload, 1) := by decide +kernel
theorem dX1_isInside_35 : decode cX1_isInside 35 = .ok (.istore_n 3, 1) := by decide +kernel
theorem dX1_isInside_36 : decode cX1_isInside 36 = .ok (.iinc 4 1, 3) := by decide +kernel
theorem dX1_isInside_39 : decode cX1_isInside 39 = .ok (.goto (-29), 3) := by decide +kernel
theorem dX1_isInside_27 : decode cX1_isInside 27 = .ok (.iconst 1, 1) := by decide +kernel
theorem dX1_isInside_28 : decode cX1_isInside 28 = .ok (.ireturn, 1) := by decide +kernel
theorem dX1_isInside_42 : decode cX1_isInside 42 = .ok (.iconst 0, 1) := by decide +kernel
theorem dX1_isInside_43 : decode cX1_isInside 43 = .ok (.ireturn, 1) := by decide +kernel
theorem dX4_isTail_0 : decode cX4_isTail 0 = .ok (.aload_n 0, 1) := by decide +kernel
theorem dX4_isTail_1 : decode cX4_isTail 1 = .ok (.getfield 9, 3) := by decide +kernel
theorem dX4_isTail_4 : decode cX4_isTail 4 = .ok (.iload_n 1, 1) := by decide +kernel
theorem dX4_isTail_5 : decode cX4_isTail 5 = .ok (.iaload, 1) := by decide +kernel
theorem dX4_isTail_6 : decode cX4_isTail 6 = .ok (.istore_n 2, 1) := by decide +kernel
theorem dX4_isTail_7 : decode cX4_isTail 7 = .ok (.aload_n 0, 1) := by decide +kernel
theorem dX4_isTail_8 : decode cX4_isTail 8 = .ok (.getfield 69, 3) := by decide +kernel
theorem dX4_isTail_11 : decode cX4_isTail 11 = .ok (.getfield 101, 3) := by decide +kernel
theorem dX4_isTail_14 : decode cX4_isTail 14 = .ok (.iload_n 1, 1) := by decide +kernel
theorem dX4_isTail_15 : decode cX4_isTail 15 = .ok (.iaload, 1) := by decide +kernel
theorem dX4_isTail_16 : decode cX4_isTail 16 = .ok (.bipush 18, 2) := by decide +kernel
theorem dX4_isTail_18 : decode cX4_isTail 18 = .ok (.if_icmp .ne 21, 3) := by decide +kernel
theorem dX4_isTail_39 : decode cX4_isTail 39 = .ok (.iconst 0, 1) := by decide +kernel
theorem dX4_isTail_40 : decode cX4_isTail 40 = .ok (.ireturn, 1) := by decide +kernel
theorem dX4_isTail_21 : decode cX4_isTail 21 = .ok (.iload_n 2, 1) := by decide +kernel
theorem dX4_isTail_22 : decode cX4_isTail 22 = .ok (.iconst (-1), 1) := by decide +kernel
theorem dX4_isTail_23 : decode cX4_isTail 23 = .ok (.if_icmp .eq 16, 3) := by decide +kernel
theorem dX4_isTail_26 : decode cX4_isTail 26 = .ok (.iload_n 2, 1) := by decide +kernel
theorem dX4_isTail_27 : decode cX4_isTail 27 = .ok (.ifCond .eq 12, 3) := by decide +kernel
theorem dX4_isTail_30 : decode cX4_isTail 30 = .ok (.aload_n 0, 1) := by decide +kernel
theorem dX4_isTail_31 : decode cX4_isTail 31 = .ok (.getfield 49, 3) := by decide +kernel
theorem dX4_isTail_34 : decode cX4_isTail 34 = .ok (.iload_n 2, 1) := by decide +kernel
theorem dX4_isTail_35 : decode cX4_isTail 35 = .ok (.iaload, 1) := by decide +kernel
theorem dX4_isTail_36 : decode cX4_isTail 36 = .ok (.ifCond .eq 5, 3) := by decide +kernel
theorem dX4_isTail_41 : decode cX4_isTail 41 = .ok (.aload_n 0, 1) := by decide +kernel
theorem dX4_isTail_42 : decode cX4_isTail 42 = .ok (.getfield 69, 3) := by decide +kernel
theorem dX4_isTail_45 : decode cX4_isTail 45 = .ok (.getfield 150, 3) := by decide +kernel
theorem dX4_isTail_48 : decode cX4_isTail 48 = .ok (.iload_n 1, 1) := by decide +kernel
theorem dX4_isTail_49 : decode cX4_isTail 49 = .ok (.iaload, 1) := by decide +kernel
theorem dX4_isTail_50 : decode cX4_isTail 50 = .ok (.istore_n 3, 1) := by decide +kernel
theorem dX4_isTail_51 : decode cX4_isTail 51 = .ok (.aload_n 0, 1) := by decide +kernel
theorem dX4_isTail_52 : decode cX4_isTail 52 = .ok (.getfield 69, 3) := by decide +kernel
theorem dX4_isTail_55 : decode cX4_isTail 55 = .ok (.getfield 101, 3) := by decide +kernel
theorem dX4_isTail_58 : decode cX4_isTail 58 = .ok (.iload_n 3, 1) := by decide +kernel
theorem dX4_isTail_59 : decode cX4_isTail 59 = .ok (.iaload, 1) := by decide +kernel
theorem dX4_isTail_60 : decode cX4_isTail 60 = .ok (.bipush 8, 2) := by decide +kernel
theorem dX4_isTail_62 : decode cX4_isTail 62 = .ok (.if_icmp .ne 51, 3) := by decide +kernel
theorem dX4_isTail_113 : decode cX4_isTail 113 = .ok (.iconst 0, 1) := by decide +kernel
theorem dX4_isTail_114 : decode cX4_isTail 114 = .ok (.ireturn, 1) := by decide +kernel
theorem dX4_isTail_65 : decode cX4_isTail 65 = .ok (.aload_n 0, 1) := by decide +kernel
theorem dX4_isTail_66 : decode cX4_isTail 66 = .ok (.getfield 21, 3) := by decide +kernel
theorem dX4_isTail_69 : decode cX4_isTail 69 = .ok (.iload_n 3, 1) := by decide +kernel
theorem dX4_isTail_70 : decode cX4_isTail 70 = .ok (.iaload, 1) := by decide +kernel
theorem dX4_isTail_71 : decode cX4_isTail 71 = .ok (.bipush 10, 2) := by decide +kernel
theorem dX4_isTail_73 : decode cX4_isTail 73 = .ok (.if_icmp .ne 40, 3) := by decide +kernel
theorem dX4_isTail_76 : decode cX4_isTail 76 = .ok (.aload_n 0, 1) := by decide +kernel
theorem dX4_isTail_77 : decode cX4_isTail 77 = .ok (.getfield 65, 3) := by decide +kernel
theorem dX4_isTail_80 : decode cX4_isTail 80 = .ok (.aload_n 0, 1) := by decide +kernel
theorem dX4_isTail_81 : decode cX4_isTail 81 = .ok (.getfield 24, 3) := by decide +kernel
theorem dX4_isTail_84 : decode cX4_isTail 84 = .ok (.iload_n 3, 1) := by decide +kernel
theorem dX4_isTail_85 : decode cX4_isTail 85 = .ok (.iaload, 1) := by decide +kernel
theorem dX4_isTail_86 : decode cX4_isTail 86 = .ok (.invokevirtual 176, 3) := by decide +kernel
theorem dX4_isTail_89 : decode cX4_isTail 89 = .ok (.ifCond .eq 24, 3) := by decide +kernel
theorem dX4_isTail_92 : decode cX4_isTail 92 = .ok (.aload_n 0, 1) := by decide +kernel
theorem dX4_isTail_93 : decode cX4_isTail 93 = .ok (.getfield 65, 3) := by decide +kernel
theorem dX4_isTail_96 : decode cX4_isTail 96 = .ok (.aload_n 0, 1) := by decide +kernel
theorem dX4_isTail_97 : decode cX4_isTail 97 = .ok (.getfield 24, 3) := by decide +kernel
theorem dX4_isTail_100 : decode cX4_isTail 100 = .ok (.iload_n 3, 1) := by decide +kernel
theorem dX4_isTail_101 : decode cX4_isTail 101 = .ok (.iaload, 1) := by decide +kernel
theorem dX4_isTail_102 : decode cX4_isTail 102 = .ok (.iload_n 2, 1) := by decide +kernel
theorem dX4_isTail_103 : decode cX4_isTail 103 = .ok (.invokevirtual 179, 3) := by decide +kernel
theorem dX4_isTail_106 : decode cX4_isTail 106 = .ok (.ifCond .ne 7, 3) := by decide +kernel
theorem dX4_isTail_109 : decode cX4_isTail 109 = .ok (.iconst 1, 1) := by decide +kernel
theorem dX4_isTail_110 : decode cX4_isTail 110 = .ok (.goto 4, 3) := by decide +kernel
theorem dX4_isInLoop_0 : decode cX4_isInLoop 0 = .ok (.aload_n 0, 1) := by decide +kernel
theorem dX4_isInLoop_1 : decode cX4_isInLoop 1 = .ok (.getfield 69, 3) := by decide +kernel
theorem dX4_isInLoop_4 : decode cX4_isInLoop 4 = .ok (.getfield 117, 3) := by decide +kernel
theorem dX4_isInLoop_7 : decode cX4_isInLoop 7 = .ok (.iload_n 1, 1) := by decide +kernel
theorem dX4_isInLoop_8 : decode cX4_isInLoop 8 = .ok (.iaload, 1) := by decide +kernel
theorem dX4_isInLoop_9 : decode cX4_isInLoop 9 = .ok (.istore_n 2, 1) := by decide +kernel
theorem dX4_isInLoop_10 : decode cX4_isInLoop 10 = .ok (.iconst 0, 1) := by decide +kernel
theorem dX4_isInLoop_11 : decode cX4_isInLoop 11 = .ok (.istore_n 3, 1) := by decide +kernel
theorem dX4_isInLoop_12 : decode cX4_isInLoop 12 = .ok (.iload_n 3, 1) := by decide +kernel
theorem dX4_isInLoop_13 : decode cX4_isInLoop 13 = .ok (.bipush 110, 2) := by decide +kernel
theorem dX4_isInLoop_15 : decode cX4_isInLoop 15 = .ok (.if_icmp .ge 61, 3) := by decide +kernel
theorem dX4_isInLoop_18 : decode cX4_isInLoop 18 = .ok (.iload_n 2, 1) := by decide +kernel
theorem dX4_isInLoop_19 : decode cX4_isInLoop 19 = .ok (.iconst (-1), 1) := by decide +kernel
theorem dX4_isInLoop_20 : decode cX4_isInLoop 20 = .ok (.if_icmp .eq 56, 3) := by decide +kernel
theorem dX4_isInLoop_23 : decode cX4_isInLoop 23 = .ok (.aload_n 0, 1) := by decide +kernel
theorem dX4_isInLoop_24 : decode cX4_isInLoop 24 = .ok (.getfield 69, 3) := by decide +kernel
theorem dX4_isInLoop_27 : decode cX4_isInLoop 27 = .ok (.getfield 101, 3) := by decide +kernel
theorem dX4_isInLoop_30 : decode cX4_isInLoop 30 = .ok (.iload_n 2, 1) := by decide +kernel
theorem dX4_isInLoop_31 : decode cX4_isInLoop 31 = .ok (.iaload, 1) := by decide +kernel
theorem dX4_isInLoop_32 : decode cX4_isInLoop 32 = .ok (.bipush 16, 2) := by decide +kernel
theorem dX4_isInLoop_34 : decode cX4_isInLoop 34 = .ok (.if_icmp .ne 26, 3) := by decide +kernel
theorem dX4_isInLoop_60 : decode cX4_isInLoop 60 = .ok (.aload_n 0, 1) := by decide +kernel
theorem dX4_isInLoop_61 : decode cX4_isInLoop 61 = .ok (.getfield 69, 3) := by decide +kernel
theorem dX4_isInLoop_64 : decode cX4_isInLoop 64 = .ok (.getfield 117, 3) := by decide +kernel
theorem dX4_isInLoop_67 : decode cX4_isInLoop 67 = .ok (.iload_n 2, 1) := by decide +kernel
theorem dX4_isInLoop_68 : decode cX4_isInLoop 68 = .ok (.iaload, 1) := by decide +kernel
theorem dX4_isInLoop_69 : decode cX4_isInLoop 69 = .ok (.istore_n 2, 1) := by decide +kernel
theorem dX4_isInLoop_70 : decode cX4_isInLoop 70 = .ok (.iinc 3 1, 3) := by decide +kernel
theorem dX4_isInLoop_73 : decode cX4_isInLoop 73 = .ok (.goto (-61), 3) := by decide +kernel
theorem dX4_isInLoop_37 : decode cX4_isInLoop 37 = .ok (.aload_n 0, 1) := by decide +kernel
theorem dX4_isInLoop_38 : decode cX4_isInLoop 38 = .ok (.getfield 69, 3) := by decide +kernel
theorem dX4_isInLoop_41 : decode cX4_isInLoop 41 = .ok (.getfield 123, 3) := by decide +kernel
theorem dX4_isInLoop_44 : decode cX4_isInLoop 44 = .ok (.iload_n 2, 1) := by decide +kernel
theorem dX4_isInLoop_45 : decode cX4_isInLoop 45 = .ok (.iaload, 1) := by decide +kernel
theorem dX4_isInLoop_46 : decode cX4_isInLoop 46 = .ok (.aload_n 0, 1) := by decide +kernel
theorem dX4_isInLoop_47 : decode cX4_isInLoop 47 = .ok (.getfield 69, 3) := by decide +kernel
theorem dX4_isInLoop_50 : decode cX4_isInLoop 50 = .ok (.getfield 123, 3) := by decide +kernel
theorem dX4_isInLoop_53 : decode cX4_isInLoop 53 = .ok (.iload_n 1, 1) := by decide +kernel
theorem dX4_isInLoop_54 : decode cX4_isInLoop 54 = .ok (.iaload, 1) := by decide +kernel
theorem dX4_isInLoop_55 : decode cX4_isInLoop 55 = .ok (.if_icmp .ne 5, 3) := by decide +kernel
theorem dX4_isInLoop_58 : decode cX4_isInLoop 58 = .ok (.iconst 1, 1) := by decide +kernel
theorem dX4_isInLoop_59 : decode cX4_isInLoop 59 = .ok (.ireturn, 1) := by decide +kernel
theorem dX4_isInLoop_76 : decode cX4_isInLoop 76 = .ok (.iconst 0, 1) := by decide +kernel
theorem dX4_isInLoop_77 : decode cX4_isInLoop 77 = .ok (.ireturn, 1) := by decide +kernel
theorem dX4_hopsToLoop_0 : decode cX4_hopsToLoop 0 = .ok (.aload_n 0, 1) := by decide +kernel
theorem dX4_hopsToLoop_1 : decode cX4_hopsToLoop 1 = .ok (.getfield 9, 3) := by decide +kernel
theorem dX4_hopsToLoop_4 : decode cX4_hopsToLoop 4 = .ok (.iload_n 1, 1) := by decide +kernel
theorem dX4_hopsToLoop_5 : decode cX4_hopsToLoop 5 = .ok (.iaload, 1) := by decide +kernel
theorem dX4_hopsToLoop_6 : decode cX4_hopsToLoop 6 = .ok (.iconst (-1), 1) := by decide +kernel
theorem dX4_hopsToLoop_7 : decode cX4_hopsToLoop 7 = .ok (.if_icmp .ne 5, 3) := by decide +kernel
theorem dX4_hopsToLoop_12 : decode cX4_hopsToLoop 12 = .ok (.aload_n 0, 1) := by decide +kernel
theorem dX4_hopsToLoop_13 : decode cX4_hopsToLoop 13 = .ok (.iload_n 1, 1) := by decide +kernel
theorem dX4_hopsToLoop_14 : decode cX4_hopsToLoop 14 = .ok (.invokevirtual 182, 3) := by decide +kernel
theorem dX4_hopsToLoop_17 : decode cX4_hopsToLoop 17 = .ok (.ifCond .eq 5, 3) := by decide +kernel
theorem dX4_hopsToLoop_22 : decode cX4_hopsToLoop 22 = .ok (.aload_n 0, 1) := by decide +kernel
theorem dX4_hopsToLoop_23 : decode cX4_hopsToLoop 23 = .ok (.getfield 65, 3) := by decide +kernel
theorem dX4_hopsToLoop_26 : decode cX4_hopsToLoop 26 = .ok (.getfield 173, 3) := by decide +kernel
theorem dX4_hopsToLoop_29 : decode cX4_hopsToLoop 29 = .ok (.aload_n 0, 1) := by decide +kernel
theorem dX4_hopsToLoop_30 : decode cX4_hopsToLoop 30 = .ok (.getfield 9, 3) := by decide +kernel
theorem dX4_hopsToLoop_33 : decode cX4_hopsToLoop 33 = .ok (.iload_n 1, 1) := by decide +kernel
theorem dX4_hopsToLoop_34 : decode cX4_hopsToLoop 34 = .ok (.iaload, 1) := by decide +kernel
theorem dX4_hopsToLoop_35 : decode cX4_hopsToLoop 35 = .ok (.iaload, 1) := by decide +kernel
theorem dX4_hopsToLoop_36 : decode cX4_hopsToLoop 36 = .ok (.istore_n 2, 1) := by decide +kernel
theorem dX4_hopsToLoop_37 : decode cX4_hopsToLoop 37 = .ok (.iconst 1, 1) := by decide +kernel
theorem dX4_hopsToLoop_38 : decode cX4_hopsToLoop 38 = .ok (.istore_n 3, 1) := by decide +kernel
theorem dX4_hopsToLoop_39 : decode cX4_hopsToLoop 39 = .ok (.iload_n 3, 1) := by decide +kernel
theorem dX4_hopsToLoop_40 : decode cX4_hopsToLoop 40 = .ok (.bipush 10, 2) := by decide +kernel
theorem dX4_hopsToLoop_42 : decode cX4_hopsToLoop 42 = .ok (.if_icmp .ge 48, 3) := by decide +kernel
theorem dX4_hopsToLoop_45 : decode cX4_hopsToLoop 45 = .ok (.iload_n 2, 1) := by decide +kernel
theorem dX4_hopsToLoop_46 : decode cX4_hopsToLoop 46 = .ok (.iconst (-1), 1) := by decide +kernel
theorem dX4_hopsToLoop_47 : decode cX4_hopsToLoop 47 = .ok (.if_icmp .eq 43, 3) := by decide +kernel
theorem dX4_hopsToLoop_50 : decode cX4_hopsToLoop 50 = .ok (.aload_n 0, 1) := by decide +kernel
theorem dX4_hopsToLoop_51 : decode cX4_hopsToLoop 51 = .ok (.getfield 43, 3) := by decide +kernel
theorem dX4_hopsToLoop_54 : decode cX4_hopsToLoop 54 = .ok (.iload_n 2, 1) := by decide +kernel
theorem dX4_hopsToLoop_55 : decode cX4_hopsToLoop 55 = .ok (.iaload, 1) := by decide +kernel
theorem dX4_hopsToLoop_56 : decode cX4_hopsToLoop 56 = .ok (.aload_n 0, 1) := by decide +kernel
theorem dX4_hopsToLoop_57 : decode cX4_hopsToLoop 57 = .ok (.getfield 69, 3) := by decide +kernel
theorem dX4_hopsToLoop_60 : decode cX4_hopsToLoop 60 = .ok (.getfield 123, 3) := by decide +kernel
theorem dX4_hopsToLoop_63 : decode cX4_hopsToLoop 63 = .ok (.iload_n 1, 1) := by decide +kernel
theorem dX4_hopsToLoop_64 : decode cX4_hopsToLoop 64 = .ok (.iaload, 1) := by decide +kernel
theorem dX4_hopsToLoop_65 : decode cX4_hopsToLoop 65 = .ok (.ishr, 1) := by decide +kernel
theorem dX4_hopsToLoop_66 : decode cX4_hopsToLoop 66 = .ok (.iconst 1, 1) := by decide +kernel
theorem dX4_hopsToLoop_67 : decode cX4_hopsToLoop 67 = .ok (.iand, 1) := by decide +kernel
theorem dX4_hopsToLoop_68 : decode cX4_hopsToLoop 68 = .ok (.iconst 1, 1) := by decide +kernel
theorem dX4_hopsToLoop_69 : decode cX4_hopsToLoop 69 = .ok (.if_icmp .ne 5, 3) := by decide +kernel
theorem dX4_hopsToLoop_74 : decode cX4_hopsToLoop 74 = .ok (.aload_n 0, 1) := by decide +kernel
theorem dX4_hopsToLoop_75 : decode cX4_hopsToLoop 75 = .ok (.getfield 65, 3) := by decide +kernel
theorem dX4_hopsToLoop_78 : decode cX4_hopsToLoop 78 = .ok (.getfield 173, 3) := by decide +kernel
theorem dX4_hopsToLoop_81 : decode cX4_hopsToLoop 81 = .ok (.iload_n 2, 1) := by decide +kernel
theorem dX4_hopsToLoop_82 : decode cX4_hopsToLoop 82 = .ok (.iaload, 1) := by decide +kernel
theorem dX4_hopsToLoop_83 : decode cX4_hopsToLoop 83 = .ok (.istore_n 2, 1) := by decide +kernel
theorem dX4_hopsToLoop_84 : decode cX4_hopsToLoop 84 = .ok (.iinc 3 1, 3) := by decide +kernel
theorem dX4_hopsToLoop_87 : decode cX4_hopsToLoop 87 = .ok (.goto (-48), 3) := by decide +kernel
theorem dX4_hopsToLoop_72 : decode cX4_hopsToLoop 72 = .ok (.iload_n 3, 1) := by decide +kernel
theorem dX4_hopsToLoop_73 : decode cX4_hopsToLoop 73 = .ok (.ireturn, 1) := by decide +kernel
theorem dX4_hopsToLoop_90 : decode cX4_hopsToLoop 90 = .ok (.iconst (-1), 1) := by decide +kernel
theorem dX4_hopsToLoop_91 : decode cX4_hopsToLoop 91 = .ok (.ireturn, 1) := by decide +kernel
theorem dX4_hopsToLoop_20 : decode cX4_hopsToLoop 20 = .ok (.iconst 0, 1) := by decide +kernel
theorem dX4_hopsToLoop_21 : decode cX4_hopsToLoop 21 = .ok (.ireturn, 1) := by decide +kernel
theorem dX4_hopsToLoop_10 : decode cX4_hopsToLoop 10 = .ok (.iconst (-1), 1) := by decide +kernel
theorem dX4_hopsToLoop_11 : decode cX4_hopsToLoop 11 = .ok (.ireturn, 1) := by decide +kernel
theorem dX4_findModes_0 : decode cX4_findModes 0 = .ok (.iconst 0, 1) := by decide +kernel
theorem dX4_findModes_1 : decode cX4_findModes 1 = .ok (.istore_n 1, 1) := by decide +kernel
theorem dX4_findModes_2 : decode cX4_findModes 2 = .ok (.iload_n 1, 1) := by decide +kernel
theorem dX4_findModes_3 : decode cX4_findModes 3 = .ok (.aload_n 0, 1) := by decide +kernel
theorem dX4_findModes_4 : decode cX4_findModes 4 = .ok (.getfield 69, 3) := by decide +kernel
theorem dX4_findModes_7 : decode cX4_findModes 7 = .ok (.getfield 76, 3) := by decide +kernel
theorem dX4_findModes_10 : decode cX4_findModes 10 = .ok (.if_icmp .ge 118, 3) := by decide +kernel
theorem dX4_findModes_13 : decode cX4_findModes 13 = .ok (.aload_n 0, 1) := by decide +kernel
theorem dX4_findModes_14 : decode cX4_findModes 14 = .ok (.getfield 69, 3) := by decide +kernel
theorem dX4_findModes_17 : decode cX4_findModes 17 = .ok (.getfield 101, 3) := by decide +kernel
theorem dX4_findModes_20 : decode cX4_findModes 20 = .ok (.iload_n 1, 1) := by decide +kernel
theorem dX4_findModes_21 : decode cX4_findModes 21 = .ok (.iaload, 1) := by decide +kernel
theorem dX4_findModes_22 : decode cX4_findModes 22 = .ok (.bipush 8, 2) := by decide +kernel
theorem dX4_findModes_24 : decode cX4_findModes 24 = .ok (.if_icmp .ne 98, 3) := by decide +kernel
theorem dX4_findModes_122 : decode cX4_findModes 122 = .ok (.iinc 1 1, 3) := by decide +kernel
theorem dX4_findModes_125 : decode cX4_findModes 125 = .ok (.goto (-123), 3) := by decide +kernel
theorem dX4_findModes_27 : decode cX4_findModes 27 = .ok (.aload_n 0, 1) := by decide +kernel
theorem dX4_findModes_28 : decode cX4_findModes 28 = .ok (.getfield 21, 3) := by decide +kernel
theorem dX4_findModes_31 : decode cX4_findModes 31 = .ok (.iload_n 1, 1) := by decide +kernel
theorem dX4_findModes_32 : decode cX4_findModes 32 = .ok (.iaload, 1) := by decide +kernel
theorem dX4_findModes_33 : decode cX4_findModes 33 = .ok (.bipush 10, 2) := by decide +kernel
theorem dX4_findModes_35 : decode cX4_findModes 35 = .ok (.if_icmp .eq 6, 3) := by decide +kernel
theorem dX4_findModes_41 : decode cX4_findModes 41 = .ok (.aload_n 0, 1) := by decide +kernel
theorem dX4_findModes_42 : decode cX4_findModes 42 = .ok (.getfield 69, 3) := by decide +kernel
theorem dX4_findModes_45 : decode cX4_findModes 45 = .ok (.getfield 150, 3) := by decide +kernel
theorem dX4_findModes_48 : decode cX4_findModes 48 = .ok (.iload_n 1, 1) := by decide +kernel
theorem dX4_findModes_49 : decode cX4_findModes 49 = .ok (.iaload, 1) := by decide +kernel
theorem dX4_findModes_50 : decode cX4_findModes 50 = .ok (.istore_n 2, 1) := by decide +kernel
theorem dX4_findModes_51 : decode cX4_findModes 51 = .ok (.aload_n 0, 1) := by decide +kernel
theorem dX4_findModes_52 : decode cX4_findModes 52 = .ok (.getfield 65, 3) := by decide +kernel
theorem dX4_findModes_55 : decode cX4_findModes 55 = .ok (.getfield 185, 3) := by decide +kernel
theorem dX4_findModes_58 : decode cX4_findModes 58 = .ok (.aload_n 0, 1) := by decide +kernel
theorem dX4_findModes_59 : decode cX4_findModes 59 = .ok (.getfield 24, 3) := by decide +kernel
theorem dX4_findModes_62 : decode cX4_findModes 62 = .ok (.iload_n 1, 1) := by decide +kernel
theorem dX4_findModes_63 : decode cX4_findModes 63 = .ok (.iaload, 1) := by decide +kernel
theorem dX4_findModes_64 : decode cX4_findModes 64 = .ok (.iaload, 1) := by decide +kernel
theorem dX4_findModes_65 : decode cX4_findModes 65 = .ok (.istore_n 3, 1) := by decide +kernel
theorem dX4_findModes_66 : decode cX4_findModes 66 = .ok (.iconst 0, 1) := by decide +kernel
theorem dX4_findModes_67 : decode cX4_findModes 67 = .ok (.istore 4, 2) := by decide +kernel
theorem dX4_findModes_69 : decode cX4_findModes 69 = .ok (.iload 4, 2) := by decide +kernel
theorem dX4_findModes_71 : decode cX4_findModes 71 = .ok (.iload_n 3, 1) := by decide +kernel
theorem dX4_findModes_72 : decode cX4_findModes 72 = .ok (.if_icmp .ge 50, 3) := by decide +kernel
theorem dX4_findModes_75 : decode cX4_findModes 75 = .ok (.iload_n 2, 1) := by decide +kernel
theorem dX4_findModes_76 : decode cX4_findModes 76 = .ok (.iconst (-1), 1) := by decide +kernel
theorem dX4_findModes_77 : decode cX4_findModes 77 = .ok (.if_icmp .eq 45, 3) := by decide +kernel
theorem dX4_findModes_80 : decode cX4_findModes 80 = .ok (.aload_n 0, 1) := by decide +kernel
theorem dX4_findModes_81 : decode cX4_findModes 81 = .ok (.getfield 37, 3) := by decide +kernel
theorem dX4_findModes_84 : decode cX4_findModes 84 = .ok (.iload_n 2, 1) := by decide +kernel
theorem dX4_findModes_85 : decode cX4_findModes 85 = .ok (.aload_n 0, 1) := by decide +kernel
theorem dX4_findModes_86 : decode cX4_findModes 86 = .ok (.getfield 65, 3) := by decide +kernel
theorem dX4_findModes_89 : decode cX4_findModes 89 = .ok (.getfield 188, 3) := by decide +kernel
theorem dX4_findModes_92 : decode cX4_findModes 92 = .ok (.aload_n 0, 1) := by decide +kernel
theorem dX4_findModes_93 : decode cX4_findModes 93 = .ok (.getfield 24, 3) := by decide +kernel
theorem dX4_findModes_96 : decode cX4_findModes 96 = .ok (.iload_n 1, 1) := by decide +kernel
theorem dX4_findModes_97 : decode cX4_findModes 97 = .ok (.iaload, 1) := by decide +kernel
theorem dX4_findModes_98 : decode cX4_findModes 98 = .ok (.bipush 10, 2) := by decide +kernel
theorem dX4_findModes_100 : decode cX4_findModes 100 = .ok (.imul, 1) := by decide +kernel
theorem dX4_findModes_101 : decode cX4_findModes 101 = .ok (.iload 4, 2) := by decide +kernel
theorem dX4_findModes_103 : decode cX4_findModes 103 = .ok (.iadd, 1) := by decide +kernel
theorem dX4_findModes_104 : decode cX4_findModes 104 = .ok (.iaload, 1) := by decide +kernel
theorem dX4_findModes_105 : decode cX4_findModes 105 = .ok (.iastore, 1) := by decide +kernel
theorem dX4_findModes_106 : decode cX4_findModes 106 = .ok (.aload_n 0, 1) := by decide +kernel
theorem dX4_findModes_107 : decode cX4_findModes 107 = .ok (.getfield 69, 3) := by decide +kernel
theorem dX4_findModes_110 : decode cX4_findModes 110 = .ok (.getfield 156, 3) := by decide +kernel
theorem dX4_findModes_113 : decode cX4_findModes 113 = .ok (.iload_n 2, 1) := by decide +kernel
theorem dX4_findModes_114 : decode cX4_findModes 114 = .ok (.iaload, 1) := by decide +kernel
theorem dX4_findModes_115 : decode cX4_findModes 115 = .ok (.istore_n 2, 1) := by decide +kernel
theorem dX4_findModes_116 : decode cX4_findModes 116 = .ok (.iinc 4 1, 3) := by decide +kernel
theorem dX4_findModes_119 : decode cX4_findModes 119 = .ok (.goto (-50), 3) := by decide +kernel
theorem dX4_findModes_38 : decode cX4_findModes 38 = .ok (.goto 84, 3) := by decide +kernel
theorem dX4_findModes_128 : decode cX4_findModes 128 = .ok (.return_, 1) := by decide +kernel
theorem dJ6_bitCount_0f7a4_0 : decode cJ6_bitCount_0f7a4 0 = .ok (.iload_n 0, 1) := by decide +kernel
theorem dJ6_bitCount_0f7a4_1 : decode cJ6_bitCount_0f7a4 1 = .ok (.iload_n 0, 1) := by decide +kernel
theorem dJ6_bitCount_0f7a4_2 : decode cJ6_bitCount_0f7a4 2 = .ok (.iconst 1, 1) := by decide +kernel
theorem dJ6_bitCount_0f7a4_3 : decode cJ6_bitCount_0f7a4 3 = .ok (.iushr, 1) := by decide +kernel
theorem dJ6_bitCount_0f7a4_4 : decode cJ6_bitCount_0f7a4 4 = .ok (.ldc_w 265, 3) := by decide +kernel
theorem dJ6_bitCount_0f7a4_7 : decode cJ6_bitCount_0f7a4 7 = .ok (.iand, 1) := by decide +kernel
theorem dJ6_bitCount_0f7a4_8 : decode cJ6_bitCount_0f7a4 8 = .ok (.isub, 1) := by decide +kernel
theorem dJ6_bitCount_0f7a4_9 : decode cJ6_bitCount_0f7a4 9 = .ok (.istore_n 0, 1) := by decide +kernel
theorem dJ6_bitCount_0f7a4_10 : decode cJ6_bitCount_0f7a4 10 = .ok (.iload_n 0, 1) := by decide +kernel
theorem dJ6_bitCount_0f7a4_11 : decode cJ6_bitCount_0f7a4 11 = .ok (.ldc_w 266, 3) := by decide +kernel
theorem dJ6_bitCount_0f7a4_14 : decode cJ6_bitCount_0f7a4 14 = .ok (.iand, 1) := by decide +kernel
theorem dJ6_bitCount_0f7a4_15 : decode cJ6_bitCount_0f7a4 15 = .ok (.iload_n 0, 1) := by decide +kernel
theorem dJ6_bitCount_0f7a4_16 : decode cJ6_bitCount_0f7a4 16 = .ok (.iconst 2, 1) := by decide +kernel
theorem dJ6_bitCount_0f7a4_17 : decode cJ6_bitCount_0f7a4 17 = .ok (.iushr, 1) := by decide +kernel
theorem dJ6_bitCount_0f7a4_18 : decode cJ6_bitCount_0f7a4 18 = .ok (.ldc_w 266, 3) := by decide +kernel
theorem dJ6_bitCount_0f7a4_21 : decode cJ6_bitCount_0f7a4 21 = .ok (.iand, 1) := by decide +kernel
theorem dJ6_bitCount_0f7a4_22 : decode cJ6_bitCount_0f7a4 22 = .ok (.iadd, 1) := by decide +kernel
theorem dJ6_bitCount_0f7a4_23 : decode cJ6_bitCount_0f7a4 23 = .ok (.istore_n 0, 1) := by decide +kernel
theorem dJ6_bitCount_0f7a4_24 : decode cJ6_bitCount_0f7a4 24 = .ok (.iload_n 0, 1) := by decide +kernel
theorem dJ6_bitCount_0f7a4_25 : decode cJ6_bitCount_0f7a4 25 = .ok (.iload_n 0, 1) := by decide +kernel
theorem dJ6_bitCount_0f7a4_26 : decode cJ6_bitCount_0f7a4 26 = .ok (.iconst 4, 1) := by decide +kernel
theorem dJ6_bitCount_0f7a4_27 : decode cJ6_bitCount_0f7a4 27 = .ok (.iushr, 1) := by decide +kernel
theorem dJ6_bitCount_0f7a4_28 : decode cJ6_bitCount_0f7a4 28 = .ok (.iadd, 1) := by decide +kernel
theorem dJ6_bitCount_0f7a4_29 : decode cJ6_bitCount_0f7a4 29 = .ok (.ldc_w 267, 3) := by decide +kernel
theorem dJ6_bitCount_0f7a4_32 : decode cJ6_bitCount_0f7a4 32 = .ok (.iand, 1) := by decide +kernel
theorem dJ6_bitCount_0f7a4_33 : decode cJ6_bitCount_0f7a4 33 = .ok (.istore_n 0, 1) := by decide +kernel
theorem dJ6_bitCount_0f7a4_34 : decode cJ6_bitCount_0f7a4 34 = .ok (.iload_n 0, 1) := by decide +kernel
theorem dJ6_bitCount_0f7a4_35 : decode cJ6_bitCount_0f7a4 35 = .ok (.iload_n 0, 1) := by decide +kernel
theorem dJ6_bitCount_0f7a4_36 : decode cJ6_bitCount_0f7a4 36 = .ok (.bipush 8, 2) := by decide +kernel
theorem dJ6_bitCount_0f7a4_38 : decode cJ6_bitCount_0f7a4 38 = .ok (.iushr, 1) := by decide +kernel
theorem dJ6_bitCount_0f7a4_39 : decode cJ6_bitCount_0f7a4 39 = .ok (.iadd, 1) := by decide +kernel
theorem dJ6_bitCount_0f7a4_40 : decode cJ6_bitCount_0f7a4 40 = .ok (.istore_n 0, 1) := by decide +kernel
theorem dJ6_bitCount_0f7a4_41 : decode cJ6_bitCount_0f7a4 41 = .ok (.iload_n 0, 1) := by decide +kernel
theorem dJ6_bitCount_0f7a4_42 : decode cJ6_bitCount_0f7a4 42 = .ok (.iload_n 0, 1) := by decide +kernel
theorem dJ6_bitCount_0f7a4_43 : decode cJ6_bitCount_0f7a4 43 = .ok (.bipush 16, 2) := by decide +kernel
theorem dJ6_bitCount_0f7a4_45 : decode cJ6_bitCount_0f7a4 45 = .ok (.iushr, 1) := by decide +kernel
theorem dJ6_bitCount_0f7a4_46 : decode cJ6_bitCount_0f7a4 46 = .ok (.iadd, 1) := by decide +kernel
theorem dJ6_bitCount_0f7a4_47 : decode cJ6_bitCount_0f7a4 47 = .ok (.istore_n 0, 1) := by decide +kernel
theorem dJ6_bitCount_0f7a4_48 : decode cJ6_bitCount_0f7a4 48 = .ok (.iload_n 0, 1) := by decide +kernel
theorem dJ6_bitCount_0f7a4_49 : decode cJ6_bitCount_0f7a4 49 = .ok (.bipush 63, 2) := by decide +kernel
theorem dJ6_bitCount_0f7a4_51 : decode cJ6_bitCount_0f7a4 51 = .ok (.iand, 1) := by decide +kernel
theorem dJ6_bitCount_0f7a4_52 : decode cJ6_bitCount_0f7a4 52 = .ok (.ireturn, 1) := by decide +kernel
theorem dX4_sumUp_0 : decode cX4_sumUp 0 = .ok (.aload_n 0, 1) := by decide +kernel
theorem dX4_sumUp_1 : decode cX4_sumUp 1 = .ok (.iconst 0, 1) := by decide +kernel
theorem dX4_sumUp_2 : decode cX4_sumUp 2 = .ok (.putfield 52, 3) := by decide +kernel
theorem dX4_sumUp_5 : decode cX4_sumUp 5 = .ok (.aload_n 0, 1) := by decide +kernel
theorem dX4_sumUp_6 : decode cX4_sumUp 6 = .ok (.iconst 0, 1) := by decide +kernel
theorem dX4_sumUp_7 : decode cX4_sumUp 7 = .ok (.putfield 56, 3) := by decide +kernel
theorem dX4_sumUp_10 : decode cX4_sumUp 10 = .ok (.aload_n 0, 1) := by decide +kernel
theorem dX4_sumUp_11 : decode cX4_sumUp 11 = .ok (.iconst 0, 1) := by decide +kernel
theorem dX4_sumUp_12 : decode cX4_sumUp 12 = .ok (.putfield 59, 3) := by decide +kernel
theorem dX4_sumUp_15 : decode cX4_sumUp 15 = .ok (.aload_n 0, 1) := by decide +kernel
theorem dX4_sumUp_16 : decode cX4_sumUp 16 = .ok (.iconst 0, 1) := by decide +kernel
theorem dX4_sumUp_17 : decode cX4_sumUp 17 = .ok (.putfield 62, 3) := by decide +kernel
theorem dX4_sumUp_20 : decode cX4_sumUp 20 = .ok (.iconst 0, 1) := by decide +kernel
theorem dX4_sumUp_21 : decode cX4_sumUp 21 = .ok (.istore_n 1, 1) := by decide +kernel
theorem dX4_sumUp_22 : decode cX4_sumUp 22 = .ok (.iload_n 1, 1) := by decide +kernel
theorem dX4_sumUp_23 : decode cX4_sumUp 23 = .ok (.aload_n 0, 1) := by decide +kernel
theorem dX4_sumUp_24 : decode cX4_sumUp 24 = .ok (.getfield 69, 3) := by decide +kernel
theorem dX4_sumUp_27 : decode cX4_sumUp 27 = .ok (.getfield 76, 3) := by decide +kernel
theorem dX4_sumUp_30 : decode cX4_sumUp 30 = .ok (.if_icmp .ge 78, 3) := by decide +kernel
theorem dX4_sumUp_33 : decode cX4_sumUp 33 = .ok (.aload_n 0, 1) := by decide +kernel
theorem dX4_sumUp_34 : decode cX4_sumUp 34 = .ok (.getfield 9, 3) := by decide +kernel
theorem dX4_sumUp_37 : decode cX4_sumUp 37 = .ok (.iload_n 1, 1) := by decide +kernel
theorem dX4_sumUp_38 : decode cX4_sumUp 38 = .ok (.iaload, 1) := by decide +kernel
theorem dX4_sumUp_39 : decode cX4_sumUp 39 = .ok (.iconst (-1), 1) := by decide +kernel
theorem dX4_sumUp_40 : decode cX4_sumUp 40 = .ok (.if_icmp .ne 16, 3) := by decide +kernel
theorem dX4_sumUp_56 : decode cX4_sumUp 56 = .ok (.aload_n 0, 1) := by decide +kernel
theorem dX4_sumUp_57 : decode cX4_sumUp 57 = .ok (.dup, 1) := by decide +kernel
theorem dX4_sumUp_58 : decode cX4_sumUp 58 = .ok (.getfield 56, 3) := by decide +kernel
theorem dX4_sumUp_61 : decode cX4_sumUp 61 = .ok (.aload_n 0, 1) := by decide +kernel
theorem dX4_sumUp_62 : decode cX4_sumUp 62 = .ok (.getfield 27, 3) := by decide +kernel
theorem dX4_sumUp_65 : decode cX4_sumUp 65 = .ok (.iload_n 1, 1) := by decide +kernel
theorem dX4_sumUp_66 : decode cX4_sumUp 66 = .ok (.baload, 1) := by decide +kernel
theorem dX4_sumUp_67 : decode cX4_sumUp 67 = .ok (.ifCond .eq 7, 3) := by decide +kernel
theorem dX4_sumUp_74 : decode cX4_sumUp 74 = .ok (.iconst 0, 1) := by decide +kernel
theorem dX4_sumUp_75 : decode cX4_sumUp 75 = .ok (.iadd, 1) := by decide +kernel
theorem dX4_sumUp_76 : decode cX4_sumUp 76 = .ok (.putfield 56, 3) := by decide +kernel
theorem dX4_sumUp_79 : decode cX4_sumUp 79 = .ok (.aload_n 0, 1) := by decide +kernel
theorem dX4_sumUp_80 : decode cX4_sumUp 80 = .ok (.dup, 1) := by decide +kernel
theorem dX4_sumUp_81 : decode cX4_sumUp 81 = .ok (.getfield 59, 3) := by decide +kernel
theorem dX4_sumUp_84 : decode cX4_sumUp 84 = .ok (.aload_n 0, 1) := by decide +kernel
theorem dX4_sumUp_85 : decode cX4_sumUp 85 = .ok (.getfield 34, 3) := by decide +kernel
theorem dX4_sumUp_88 : decode cX4_sumUp 88 = .ok (.iload_n 1, 1) := by decide +kernel
theorem dX4_sumUp_89 : decode cX4_sumUp 89 = .ok (.baload, 1) := by decide +kernel
theorem dX4_sumUp_90 : decode cX4_sumUp 90 = .ok (.ifCond .eq 7, 3) := by decide +kernel
theorem dX4_sumUp_97 : decode cX4_sumUp 97 = .ok (.iconst 0, 1) := by decide +kernel
theorem dX4_sumUp_98 : decode cX4_sumUp 98 = .ok (.iadd, 1) := by decide +kernel
theorem dX4_sumUp_99 : decode cX4_sumUp 99 = .ok (.putfield 59, 3) := by decide +kernel
theorem dX4_sumUp_102 : decode cX4_sumUp 102 = .ok (.iinc 1 1, 3) := by decide +kernel
theorem dX4_sumUp_105 : decode cX4_sumUp 105 = .ok (.goto (-83), 3) := by decide +kernel
theorem dX4_sumUp_93 : decode cX4_sumUp 93 = .ok (.iconst 1, 1) := by decide +kernel
theorem dX4_sumUp_94 : decode cX4_sumUp 94 = .ok (.goto 4, 3) := by decide +kernel
theorem dX4_sumUp_70 : decode cX4_sumUp 70 = .ok (.iconst 1, 1) := by decide +kernel
theorem dX4_sumUp_71 : decode cX4_sumUp 71 = .ok (.goto 4, 3) := by decide +kernel
theorem dX4_sumUp_43 : decode cX4_sumUp 43 = .ok (.aload_n 0, 1) := by decide +kernel
theorem dX4_sumUp_44 : decode cX4_sumUp 44 = .ok (.dup, 1) := by decide +kernel
theorem dX4_sumUp_45 : decode cX4_sumUp 45 = .ok (.getfield 52, 3) := by decide +kernel
theorem dX4_sumUp_48 : decode cX4_sumUp 48 = .ok (.iconst 1, 1) := by decide +kernel
theorem dX4_sumUp_49 : decode cX4_sumUp 49 = .ok (.iadd, 1) := by decide +kernel
theorem dX4_sumUp_50 : decode cX4_sumUp 50 = .ok (.putfield 52, 3) := by decide +kernel
theorem dX4_sumUp_53 : decode cX4_sumUp 53 = .ok (.goto 49, 3) := by decide +kernel
theorem dX4_sumUp_108 : decode cX4_sumUp 108 = .ok (.iconst 0, 1) := by decide +kernel
theorem dX4_sumUp_109 : decode cX4_sumUp 109 = .ok (.istore_n 1, 1) := by decide +kernel
theorem dX4_sumUp_110 : decode cX4_sumUp 110 = .ok (.iload_n 1, 1) := by decide +kernel
theorem dX4_sumUp_111 : decode cX4_sumUp 111 = .ok (.aload_n 0, 1) := by decide +kernel
theorem dX4_sumUp_112 : decode cX4_sumUp 112 = .ok (.getfield 65, 3) := by decide +kernel
theorem dX4_sumUp_115 : decode cX4_sumUp 115 = .ok (.getfield 191, 3) := by decide +kernel
theorem dX4_sumUp_118 : decode cX4_sumUp 118 = .ok (.if_icmp .ge 27, 3) := by decide +kernel
theorem dX4_sumUp_121 : decode cX4_sumUp 121 = .ok (.aload_n 0, 1) := by decide +kernel
theorem dX4_sumUp_122 : decode cX4_sumUp 122 = .ok (.dup, 1) := by decide +kernel
theorem dX4_sumUp_123 : decode cX4_sumUp 123 = .ok (.getfield 62, 3) := by decide +kernel
theorem dX4_sumUp_126 : decode cX4_sumUp 126 = .ok (.aload_n 0, 1) := by decide +kernel
theorem dX4_sumUp_127 : decode cX4_sumUp 127 = .ok (.getfield 49, 3) := by decide +kernel
theorem dX4_sumUp_130 : decode cX4_sumUp 130 = .ok (.iload_n 1, 1) := by decide +kernel
theorem dX4_sumUp_131 : decode cX4_sumUp 131 = .ok (.iaload, 1) := by decide +kernel
theorem dX4_sumUp_132 : decode cX4_sumUp 132 = .ok (.invokestatic 192, 3) := by decide +kernel
theorem dX4_sumUp_135 : decode cX4_sumUp 135 = .ok (.iadd, 1) := by decide +kernel
theorem dX4_sumUp_136 : decode cX4_sumUp 136 = .ok (.putfield 62, 3) := by decide +kernel
theorem dX4_sumUp_139 : decode cX4_sumUp 139 = .ok (.iinc 1 1, 3) := by decide +kernel
theorem dX4_sumUp_142 : decode cX4_sumUp 142 = .ok (.goto (-32), 3) := by decide +kernel
theorem dX4_sumUp_145 : decode cX4_sumUp 145 = .ok (.return_, 1) := by decide +kernel
theorem dX4_find_0 : decode cX4_find 0 = .ok (.aload_n 0, 1) := by decide +kernel
theorem dX4_find_1 : decode cX4_find 1 = .ok (.invokevirtual 73, 3) := by decide +kernel
theorem dX4_find_4 : decode cX4_find 4 = .ok (.iconst 0, 1) := by decide +kernel
theorem dX4_find_5 : decode cX4_find 5 = .ok (.istore_n 1, 1) := by decide +kernel
theorem dX4_find_6 : decode cX4_find 6 = .ok (.iload_n 1, 1) := by decide +kernel
theorem dX4_find_7 : decode cX4_find 7 = .ok (.aload_n 0, 1) := by decide +kernel
theorem dX4_find_8 : decode cX4_find 8 = .ok (.getfield 69, 3) := by decide +kernel
theorem dX4_find_11 : decode cX4_find 11 = .ok (.getfield 76, 3) := by decide +kernel
theorem dX4_find_14 : decode cX4_find 14 = .ok (.if_icmp .ge 19, 3) := by decide +kernel
theorem dX4_find_17 : decode cX4_find 17 = .ok (.aload_n 0, 1) := by decide +kernel
theorem dX4_find_18 : decode cX4_find 18 = .ok (.iload_n 1, 1) := by decide +kernel
theorem dX4_find_19 : decode cX4_find 19 = .ok (.invokevirtual 81, 3) := by decide +kernel
theorem dX4_find_22 : decode cX4_find 22 = .ok (.aload_n 0, 1) := by decide +kernel
theorem dX4_find_23 : decode cX4_find 23 = .ok (.iload_n 1, 1) := by decide +kernel
theorem dX4_find_24 : decode cX4_find 24 = .ok (.invokevirtual 85, 3) := by decide +kernel
theorem dX4_find_27 : decode cX4_find 27 = .ok (.iinc 1 1, 3) := by decide +kernel
theorem dX4_find_30 : decode cX4_find 30 = .ok (.goto (-24), 3) := by decide +kernel
theorem dX4_find_33 : decode cX4_find 33 = .ok (.aload_n 0, 1) := by decide +kernel
theorem dX4_find_34 : decode cX4_find 34 = .ok (.invokevirtual 88, 3) := by decide +kernel
theorem dX4_find_37 : decode cX4_find 37 = .ok (.aload_n 0, 1) := by decide +kernel
theorem dX4_find_38 : decode cX4_find 38 = .ok (.invokevirtual 91, 3) := by decide +kernel
theorem dX4_find_41 : decode cX4_find 41 = .ok (.aload_n 0, 1) := by decide +kernel
theorem dX4_find_42 : decode cX4_find 42 = .ok (.invokevirtual 94, 3) := by decide +kernel
