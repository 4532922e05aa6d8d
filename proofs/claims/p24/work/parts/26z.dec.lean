theorem dL_cell_0 : decode cL_cell 0 = .ok (.iload_n 1, 1) := by decide +kernel
theorem dL_cell_1 : decode cL_cell 1 = .ok (.aload_n 0, 1) := by decide +kernel
theorem dL_cell_2 : decode cL_cell 2 = .ok (.arraylength, 1) := by decide +kernel
theorem dL_cell_3 : decode cL_cell 3 = .ok (.if_icmp .ge 9, 3) := by decide +kernel
theorem dL_cell_12 : decode cL_cell 12 = .ok (.ldc 8, 2) := by decide +kernel
theorem dL_cell_14 : decode cL_cell 14 = .ok (.iload_n 1, 1) := by decide +kernel
theorem dL_cell_15 : decode cL_cell 15 = .ok (.iconst 3, 1) := by decide +kernel
theorem dL_cell_16 : decode cL_cell 16 = .ok (.iadd, 1) := by decide +kernel
theorem dL_cell_17 : decode cL_cell 17 = .ok (.imul, 1) := by decide +kernel
theorem dL_cell_18 : decode cL_cell 18 = .ok (.ireturn, 1) := by decide +kernel
theorem dL_cell_6 : decode cL_cell 6 = .ok (.aload_n 0, 1) := by decide +kernel
theorem dL_cell_7 : decode cL_cell 7 = .ok (.iload_n 1, 1) := by decide +kernel
theorem dL_cell_8 : decode cL_cell 8 = .ok (.iaload, 1) := by decide +kernel
theorem dL_cell_9 : decode cL_cell 9 = .ok (.goto 9, 3) := by decide +kernel
theorem dL_below_0 : decode cL_below 0 = .ok (.iload_n 0, 1) := by decide +kernel
theorem dL_below_1 : decode cL_below 1 = .ok (.ldc 7, 2) := by decide +kernel
theorem dL_below_3 : decode cL_below 3 = .ok (.iand, 1) := by decide +kernel
theorem dL_below_4 : decode cL_below 4 = .ok (.iload_n 1, 1) := by decide +kernel
theorem dL_below_5 : decode cL_below 5 = .ok (.irem, 1) := by decide +kernel
theorem dL_below_6 : decode cL_below 6 = .ok (.ireturn, 1) := by decide +kernel
theorem dX9_draw_0 : decode cX9_draw 0 = .ok (.aload_n 0, 1) := by decide +kernel
theorem dX9_draw_1 : decode cX9_draw 1 = .ok (.getfield 34, 3) := by decide +kernel
theorem dX9_draw_4 : decode cX9_draw 4 = .ok (.aload_n 0, 1) := by decide +kernel
theorem dX9_draw_5 : decode cX9_draw 5 = .ok (.getfield 37, 3) := by decide +kernel
theorem dX9_draw_8 : decode cX9_draw 8 = .ok (.bipush 24, 2) := by decide +kernel
theorem dX9_draw_10 : decode cX9_draw 10 = .ok (.irem, 1) := by decide +kernel
theorem dX9_draw_11 : decode cX9_draw 11 = .ok (.invokestatic 41, 3) := by decide +kernel
theorem dX9_draw_14 : decode cX9_draw 14 = .ok (.aload_n 0, 1) := by decide +kernel
theorem dX9_draw_15 : decode cX9_draw 15 = .ok (.getfield 37, 3) := by decide +kernel
theorem dX9_draw_18 : decode cX9_draw 18 = .ok (.bipush 24, 2) := by decide +kernel
theorem dX9_draw_20 : decode cX9_draw 20 = .ok (.idiv, 1) := by decide +kernel
theorem dX9_draw_21 : decode cX9_draw 21 = .ok (.bipush 8, 2) := by decide +kernel
theorem dX9_draw_23 : decode cX9_draw 23 = .ok (.irem, 1) := by decide +kernel
theorem dX9_draw_24 : decode cX9_draw 24 = .ok (.ishr, 1) := by decide +kernel
theorem dX9_draw_25 : decode cX9_draw 25 = .ok (.sipush 211, 3) := by decide +kernel
theorem dX9_draw_28 : decode cX9_draw 28 = .ok (.aload_n 0, 1) := by decide +kernel
theorem dX9_draw_29 : decode cX9_draw 29 = .ok (.getfield 37, 3) := by decide +kernel
theorem dX9_draw_32 : decode cX9_draw 32 = .ok (.imul, 1) := by decide +kernel
theorem dX9_draw_33 : decode cX9_draw 33 = .ok (.iadd, 1) := by decide +kernel
theorem dX9_draw_34 : decode cX9_draw 34 = .ok (.iload_n 1, 1) := by decide +kernel
theorem dX9_draw_35 : decode cX9_draw 35 = .ok (.invokestatic 47, 3) := by decide +kernel
theorem dX9_draw_38 : decode cX9_draw 38 = .ok (.istore_n 2, 1) := by decide +kernel
theorem dX9_draw_39 : decode cX9_draw 39 = .ok (.aload_n 0, 1) := by decide +kernel
theorem dX9_draw_40 : decode cX9_draw 40 = .ok (.dup, 1) := by decide +kernel
theorem dX9_draw_41 : decode cX9_draw 41 = .ok (.getfield 37, 3) := by decide +kernel
theorem dX9_draw_44 : decode cX9_draw 44 = .ok (.iconst 1, 1) := by decide +kernel
theorem dX9_draw_45 : decode cX9_draw 45 = .ok (.iadd, 1) := by decide +kernel
theorem dX9_draw_46 : decode cX9_draw 46 = .ok (.putfield 37, 3) := by decide +kernel
theorem dX9_draw_49 : decode cX9_draw 49 = .ok (.iload_n 2, 1) := by decide +kernel
theorem dX9_draw_50 : decode cX9_draw 50 = .ok (.ireturn, 1) := by decide +kernel
theorem dX9_declare_0 : decode cX9_declare 0 = .ok (.aload_n 0, 1) := by decide +kernel
theorem dX9_declare_1 : decode cX9_declare 1 = .ok (.aload_n 0, 1) := by decide +kernel
theorem dX9_declare_2 : decode cX9_declare 2 = .ok (.bipush 60, 2) := by decide +kernel
theorem dX9_declare_4 : decode cX9_declare 4 = .ok (.invokevirtual 57, 3) := by decide +kernel
theorem dX9_declare_7 : decode cX9_declare 7 = .ok (.bipush 30, 2) := by decide +kernel
theorem dX9_declare_9 : decode cX9_declare 9 = .ok (.isub, 1) := by decide +kernel
theorem dX9_declare_10 : decode cX9_declare 10 = .ok (.putfield 61, 3) := by decide +kernel
theorem dX9_declare_13 : decode cX9_declare 13 = .ok (.aload_n 0, 1) := by decide +kernel
theorem dX9_declare_14 : decode cX9_declare 14 = .ok (.getfield 10, 3) := by decide +kernel
theorem dX9_declare_17 : decode cX9_declare 17 = .ok (.iconst 0, 1) := by decide +kernel
theorem dX9_declare_18 : decode cX9_declare 18 = .ok (.iconst 0, 1) := by decide +kernel
theorem dX9_declare_19 : decode cX9_declare 19 = .ok (.iconst 0, 1) := by decide +kernel
theorem dX9_declare_20 : decode cX9_declare 20 = .ok (.iconst 0, 1) := by decide +kernel
theorem dX9_declare_21 : decode cX9_declare 21 = .ok (.invokevirtual 64, 3) := by decide +kernel
theorem dX9_declare_24 : decode cX9_declare 24 = .ok (.ifCond .ne 70, 3) := by decide +kernel
theorem dX9_declare_94 : decode cX9_declare 94 = .ok (.iconst 0, 1) := by decide +kernel
theorem dX9_declare_95 : decode cX9_declare 95 = .ok (.ireturn, 1) := by decide +kernel
theorem dX9_declare_27 : decode cX9_declare 27 = .ok (.aload_n 0, 1) := by decide +kernel
theorem dX9_declare_28 : decode cX9_declare 28 = .ok (.getfield 10, 3) := by decide +kernel
theorem dX9_declare_31 : decode cX9_declare 31 = .ok (.iconst 0, 1) := by decide +kernel
theorem dX9_declare_32 : decode cX9_declare 32 = .ok (.iconst 1, 1) := by decide +kernel
theorem dX9_declare_33 : decode cX9_declare 33 = .ok (.iconst 0, 1) := by decide +kernel
theorem dX9_declare_34 : decode cX9_declare 34 = .ok (.iconst 0, 1) := by decide +kernel
theorem dX9_declare_35 : decode cX9_declare 35 = .ok (.invokevirtual 64, 3) := by decide +kernel
theorem dX9_declare_38 : decode cX9_declare 38 = .ok (.iconst 1, 1) := by decide +kernel
theorem dX9_declare_39 : decode cX9_declare 39 = .ok (.if_icmp .ne 55, 3) := by decide +kernel
theorem dX9_declare_42 : decode cX9_declare 42 = .ok (.aload_n 0, 1) := by decide +kernel
theorem dX9_declare_43 : decode cX9_declare 43 = .ok (.getfield 10, 3) := by decide +kernel
theorem dX9_declare_46 : decode cX9_declare 46 = .ok (.iconst 0, 1) := by decide +kernel
theorem dX9_declare_47 : decode cX9_declare 47 = .ok (.iconst 2, 1) := by decide +kernel
theorem dX9_declare_48 : decode cX9_declare 48 = .ok (.iconst 1, 1) := by decide +kernel
theorem dX9_declare_49 : decode cX9_declare 49 = .ok (.iconst 4, 1) := by decide +kernel
theorem dX9_declare_50 : decode cX9_declare 50 = .ok (.invokevirtual 64, 3) := by decide +kernel
theorem dX9_declare_53 : decode cX9_declare 53 = .ok (.iconst 2, 1) := by decide +kernel
theorem dX9_declare_54 : decode cX9_declare 54 = .ok (.if_icmp .ne 40, 3) := by decide +kernel
theorem dX9_declare_57 : decode cX9_declare 57 = .ok (.aload_n 0, 1) := by decide +kernel
theorem dX9_declare_58 : decode cX9_declare 58 = .ok (.getfield 10, 3) := by decide +kernel
theorem dX9_declare_61 : decode cX9_declare 61 = .ok (.iconst 0, 1) := by decide +kernel
theorem dX9_declare_62 : decode cX9_declare 62 = .ok (.iconst 3, 1) := by decide +kernel
theorem dX9_declare_63 : decode cX9_declare 63 = .ok (.iconst 3, 1) := by decide +kernel
theorem dX9_declare_64 : decode cX9_declare 64 = .ok (.aload_n 0, 1) := by decide +kernel
theorem dX9_declare_65 : decode cX9_declare 65 = .ok (.getfield 61, 3) := by decide +kernel
theorem dX9_declare_68 : decode cX9_declare 68 = .ok (.invokevirtual 64, 3) := by decide +kernel
theorem dX9_declare_71 : decode cX9_declare 71 = .ok (.iconst (-1), 1) := by decide +kernel
theorem dX9_declare_72 : decode cX9_declare 72 = .ok (.if_icmp .ne 22, 3) := by decide +kernel
theorem dX9_declare_75 : decode cX9_declare 75 = .ok (.aload_n 0, 1) := by decide +kernel
theorem dX9_declare_76 : decode cX9_declare 76 = .ok (.getfield 10, 3) := by decide +kernel
theorem dX9_declare_79 : decode cX9_declare 79 = .ok (.iconst 0, 1) := by decide +kernel
theorem dX9_declare_80 : decode cX9_declare 80 = .ok (.iconst 4, 1) := by decide +kernel
theorem dX9_declare_81 : decode cX9_declare 81 = .ok (.iconst 0, 1) := by decide +kernel
theorem dX9_declare_82 : decode cX9_declare 82 = .ok (.iconst 0, 1) := by decide +kernel
theorem dX9_declare_83 : decode cX9_declare 83 = .ok (.invokevirtual 64, 3) := by decide +kernel
theorem dX9_declare_86 : decode cX9_declare 86 = .ok (.iconst 3, 1) := by decide +kernel
theorem dX9_declare_87 : decode cX9_declare 87 = .ok (.if_icmp .ne 7, 3) := by decide +kernel
theorem dX9_declare_90 : decode cX9_declare 90 = .ok (.iconst 1, 1) := by decide +kernel
theorem dX9_declare_91 : decode cX9_declare 91 = .ok (.goto 4, 3) := by decide +kernel
theorem dX9_add_0 : decode cX9_add 0 = .ok (.iconst 4, 1) := by decide +kernel
theorem dX9_add_1 : decode cX9_add 1 = .ok (.newarray .int, 2) := by decide +kernel
theorem dX9_add_3 : decode cX9_add 3 = .ok (.dup, 1) := by decide +kernel
theorem dX9_add_4 : decode cX9_add 4 = .ok (.iconst 0, 1) := by decide +kernel
theorem dX9_add_5 : decode cX9_add 5 = .ok (.iload_n 1, 1) := by decide +kernel
theorem dX9_add_6 : decode cX9_add 6 = .ok (.iastore, 1) := by decide +kernel
theorem dX9_add_7 : decode cX9_add 7 = .ok (.dup, 1) := by decide +kernel
theorem dX9_add_8 : decode cX9_add 8 = .ok (.iconst 1, 1) := by decide +kernel
theorem dX9_add_9 : decode cX9_add 9 = .ok (.iload_n 2, 1) := by decide +kernel
theorem dX9_add_10 : decode cX9_add 10 = .ok (.iastore, 1) := by decide +kernel
theorem dX9_add_11 : decode cX9_add 11 = .ok (.dup, 1) := by decide +kernel
theorem dX9_add_12 : decode cX9_add 12 = .ok (.iconst 2, 1) := by decide +kernel
theorem dX9_add_13 : decode cX9_add 13 = .ok (.iload_n 3, 1) := by decide +kernel
theorem dX9_add_14 : decode cX9_add 14 = .ok (.iastore, 1) := by decide +kernel
theorem dX9_add_15 : decode cX9_add 15 = .ok (.dup, 1) := by decide +kernel
theorem dX9_add_16 : decode cX9_add 16 = .ok (.iconst 3, 1) := by decide +kernel
theorem dX9_add_17 : decode cX9_add 17 = .ok (.iload 4, 2) := by decide +kernel
theorem dX9_add_19 : decode cX9_add 19 = .ok (.iastore, 1) := by decide +kernel
theorem dX9_add_20 : decode cX9_add 20 = .ok (.astore 5, 2) := by decide +kernel
theorem dX9_add_22 : decode cX9_add 22 = .ok (.aload_n 0, 1) := by decide +kernel
theorem dX9_add_23 : decode cX9_add 23 = .ok (.getfield 18, 3) := by decide +kernel
theorem dX9_add_26 : decode cX9_add 26 = .ok (.aload_n 0, 1) := by decide +kernel
theorem dX9_add_27 : decode cX9_add 27 = .ok (.getfield 68, 3) := by decide +kernel
theorem dX9_add_30 : decode cX9_add 30 = .ok (.aload 5, 2) := by decide +kernel
theorem dX9_add_32 : decode cX9_add 32 = .ok (.aastore, 1) := by decide +kernel
theorem dX9_add_33 : decode cX9_add 33 = .ok (.aload_n 0, 1) := by decide +kernel
theorem dX9_add_34 : decode cX9_add 34 = .ok (.getfield 10, 3) := by decide +kernel
theorem dX9_add_37 : decode cX9_add 37 = .ok (.iload_n 1, 1) := by decide +kernel
theorem dX9_add_38 : decode cX9_add 38 = .ok (.iload_n 2, 1) := by decide +kernel
theorem dX9_add_39 : decode cX9_add 39 = .ok (.iload_n 3, 1) := by decide +kernel
theorem dX9_add_40 : decode cX9_add 40 = .ok (.iload 4, 2) := by decide +kernel
theorem dX9_add_42 : decode cX9_add 42 = .ok (.invokevirtual 71, 3) := by decide +kernel
theorem dX9_add_45 : decode cX9_add 45 = .ok (.aload_n 0, 1) := by decide +kernel
theorem dX9_add_46 : decode cX9_add 46 = .ok (.getfield 68, 3) := by decide +kernel
theorem dX9_add_49 : decode cX9_add 49 = .ok (.if_icmp .ne 17, 3) := by decide +kernel
theorem dX9_add_66 : decode cX9_add 66 = .ok (.sipush 1000, 3) := by decide +kernel
theorem dX9_add_69 : decode cX9_add 69 = .ok (.ireturn, 1) := by decide +kernel
theorem dX9_add_52 : decode cX9_add 52 = .ok (.aload_n 0, 1) := by decide +kernel
theorem dX9_add_53 : decode cX9_add 53 = .ok (.dup, 1) := by decide +kernel
theorem dX9_add_54 : decode cX9_add 54 = .ok (.getfield 68, 3) := by decide +kernel
theorem dX9_add_57 : decode cX9_add 57 = .ok (.dup_x1, 1) := by decide +kernel
theorem dX9_add_58 : decode cX9_add 58 = .ok (.iconst 1, 1) := by decide +kernel
theorem dX9_add_59 : decode cX9_add 59 = .ok (.iadd, 1) := by decide +kernel
theorem dX9_add_60 : decode cX9_add 60 = .ok (.putfield 68, 3) := by decide +kernel
theorem dX9_add_63 : decode cX9_add 63 = .ok (.goto 6, 3) := by decide +kernel
theorem dX9_expression_0 : decode cX9_expression 0 = .ok (.iload_n 1, 1) := by decide +kernel
theorem dX9_expression_1 : decode cX9_expression 1 = .ok (.ifCond .eq 12, 3) := by decide +kernel
theorem dX9_expression_13 : decode cX9_expression 13 = .ok (.aload_n 0, 1) := by decide +kernel
theorem dX9_expression_14 : decode cX9_expression 14 = .ok (.iconst 2, 1) := by decide +kernel
theorem dX9_expression_15 : decode cX9_expression 15 = .ok (.invokevirtual 57, 3) := by decide +kernel
theorem dX9_expression_18 : decode cX9_expression 18 = .ok (.goto 9, 3) := by decide +kernel
theorem dX9_expression_27 : decode cX9_expression 27 = .ok (.tableswitch 104 0 2 #[25, 42, 66], 25) := by decide +kernel
theorem dX9_expression_52 : decode cX9_expression 52 = .ok (.aload_n 0, 1) := by decide +kernel
theorem dX9_expression_53 : decode cX9_expression 53 = .ok (.iconst 0, 1) := by decide +kernel
theorem dX9_expression_54 : decode cX9_expression 54 = .ok (.aload_n 0, 1) := by decide +kernel
theorem dX9_expression_55 : decode cX9_expression 55 = .ok (.bipush 41, 2) := by decide +kernel
theorem dX9_expression_57 : decode cX9_expression 57 = .ok (.invokevirtual 57, 3) := by decide +kernel
theorem dX9_expression_60 : decode cX9_expression 60 = .ok (.bipush 20, 2) := by decide +kernel
theorem dX9_expression_62 : decode cX9_expression 62 = .ok (.isub, 1) := by decide +kernel
theorem dX9_expression_63 : decode cX9_expression 63 = .ok (.iconst 0, 1) := by decide +kernel
theorem dX9_expression_64 : decode cX9_expression 64 = .ok (.iconst 0, 1) := by decide +kernel
theorem dX9_expression_65 : decode cX9_expression 65 = .ok (.invokevirtual 74, 3) := by decide +kernel
theorem dX9_expression_68 : decode cX9_expression 68 = .ok (.ireturn, 1) := by decide +kernel
theorem dX9_expression_69 : decode cX9_expression 69 = .ok (.aload_n 0, 1) := by decide +kernel
theorem dX9_expression_70 : decode cX9_expression 70 = .ok (.iconst 4, 1) := by decide +kernel
theorem dX9_expression_71 : decode cX9_expression 71 = .ok (.invokevirtual 57, 3) := by decide +kernel
theorem dX9_expression_74 : decode cX9_expression 74 = .ok (.istore_n 2, 1) := by decide +kernel
theorem dX9_expression_75 : decode cX9_expression 75 = .ok (.aload_n 0, 1) := by decide +kernel
theorem dX9_expression_76 : decode cX9_expression 76 = .ok (.iconst 1, 1) := by decide +kernel
theorem dX9_expression_77 : decode cX9_expression 77 = .ok (.iload_n 2, 1) := by decide +kernel
theorem dX9_expression_78 : decode cX9_expression 78 = .ok (.iconst 2, 1) := by decide +kernel
theorem dX9_expression_79 : decode cX9_expression 79 = .ok (.if_icmp .ne 7, 3) := by decide +kernel
theorem dX9_expression_86 : decode cX9_expression 86 = .ok (.iload_n 2, 1) := by decide +kernel
theorem dX9_expression_87 : decode cX9_expression 87 = .ok (.iconst 0, 1) := by decide +kernel
theorem dX9_expression_88 : decode cX9_expression 88 = .ok (.iconst 0, 1) := by decide +kernel
theorem dX9_expression_89 : decode cX9_expression 89 = .ok (.invokevirtual 74, 3) := by decide +kernel
theorem dX9_expression_92 : decode cX9_expression 92 = .ok (.ireturn, 1) := by decide +kernel
theorem dX9_expression_82 : decode cX9_expression 82 = .ok (.iconst 4, 1) := by decide +kernel
theorem dX9_expression_83 : decode cX9_expression 83 = .ok (.goto 4, 3) := by decide +kernel
theorem dX9_expression_93 : decode cX9_expression 93 = .ok (.aload_n 0, 1) := by decide +kernel
theorem dX9_expression_94 : decode cX9_expression 94 = .ok (.iconst 2, 1) := by decide +kernel
theorem dX9_expression_95 : decode cX9_expression 95 = .ok (.iconst 2, 1) := by decide +kernel
theorem dX9_expression_96 : decode cX9_expression 96 = .ok (.aload_n 0, 1) := by decide +kernel
theorem dX9_expression_97 : decode cX9_expression 97 = .ok (.iconst 3, 1) := by decide +kernel
theorem dX9_expression_98 : decode cX9_expression 98 = .ok (.invokevirtual 57, 3) := by decide +kernel
theorem dX9_expression_101 : decode cX9_expression 101 = .ok (.ifCond .ne 13, 3) := by decide +kernel
theorem dX9_expression_114 : decode cX9_expression 114 = .ok (.aload_n 0, 1) := by decide +kernel
theorem dX9_expression_115 : decode cX9_expression 115 = .ok (.iconst 0, 1) := by decide +kernel
theorem dX9_expression_116 : decode cX9_expression 116 = .ok (.aload_n 0, 1) := by decide +kernel
theorem dX9_expression_117 : decode cX9_expression 117 = .ok (.iconst 4, 1) := by decide +kernel
theorem dX9_expression_118 : decode cX9_expression 118 = .ok (.invokevirtual 57, 3) := by decide +kernel
theorem dX9_expression_121 : decode cX9_expression 121 = .ok (.iconst 0, 1) := by decide +kernel
theorem dX9_expression_122 : decode cX9_expression 122 = .ok (.iconst 0, 1) := by decide +kernel
theorem dX9_expression_123 : decode cX9_expression 123 = .ok (.invokevirtual 74, 3) := by decide +kernel
theorem dX9_expression_126 : decode cX9_expression 126 = .ok (.iconst 0, 1) := by decide +kernel
theorem dX9_expression_127 : decode cX9_expression 127 = .ok (.invokevirtual 74, 3) := by decide +kernel
theorem dX9_expression_130 : decode cX9_expression 130 = .ok (.ireturn, 1) := by decide +kernel
theorem dX9_expression_104 : decode cX9_expression 104 = .ok (.aload_n 0, 1) := by decide +kernel
theorem dX9_expression_105 : decode cX9_expression 105 = .ok (.iload_n 1, 1) := by decide +kernel
theorem dX9_expression_106 : decode cX9_expression 106 = .ok (.iconst 1, 1) := by decide +kernel
theorem dX9_expression_107 : decode cX9_expression 107 = .ok (.isub, 1) := by decide +kernel
theorem dX9_expression_131 : decode cX9_expression 131 = .ok (.aload_n 0, 1) := by decide +kernel
theorem dX9_expression_132 : decode cX9_expression 132 = .ok (.iload_n 1, 1) := by decide +kernel
theorem dX9_expression_133 : decode cX9_expression 133 = .ok (.iconst 1, 1) := by decide +kernel
theorem dX9_expression_134 : decode cX9_expression 134 = .ok (.isub, 1) := by decide +kernel
theorem dX9_expression_4 : decode cX9_expression 4 = .ok (.aload_n 0, 1) := by decide +kernel
theorem dX9_expression_5 : decode cX9_expression 5 = .ok (.getfield 68, 3) := by decide +kernel
theorem dX9_expression_8 : decode cX9_expression 8 = .ok (.bipush 75, 2) := by decide +kernel
theorem dX9_expression_10 : decode cX9_expression 10 = .ok (.if_icmp .le 11, 3) := by decide +kernel
theorem dX9_expression_21 : decode cX9_expression 21 = .ok (.aload_n 0, 1) := by decide +kernel
theorem dX9_expression_22 : decode cX9_expression 22 = .ok (.bipush 7, 2) := by decide +kernel
theorem dX9_expression_24 : decode cX9_expression 24 = .ok (.invokevirtual 57, 3) := by decide +kernel
theorem dX9_expression_108 : decode cX9_expression 108 = .ok (.invokevirtual 77, 3) := by decide +kernel
theorem dX9_expression_111 : decode cX9_expression 111 = .ok (.goto 15, 3) := by decide +kernel
theorem dX9_expression_135 : decode cX9_expression 135 = .ok (.invokevirtual 77, 3) := by decide +kernel
theorem dX9_expression_138 : decode cX9_expression 138 = .ok (.istore_n 3, 1) := by decide +kernel
theorem dX9_expression_139 : decode cX9_expression 139 = .ok (.aload_n 0, 1) := by decide +kernel
theorem dX9_expression_140 : decode cX9_expression 140 = .ok (.iload_n 1, 1) := by decide +kernel
theorem dX9_expression_141 : decode cX9_expression 141 = .ok (.iconst 1, 1) := by decide +kernel
theorem dX9_expression_142 : decode cX9_expression 142 = .ok (.isub, 1) := by decide +kernel
theorem dX9_expression_143 : decode cX9_expression 143 = .ok (.invokevirtual 77, 3) := by decide +kernel
theorem dX9_expression_146 : decode cX9_expression 146 = .ok (.istore 4, 2) := by decide +kernel
theorem dX9_expression_148 : decode cX9_expression 148 = .ok (.aload_n 0, 1) := by decide +kernel
theorem dX9_expression_149 : decode cX9_expression 149 = .ok (.iconst 3, 1) := by decide +kernel
theorem dX9_expression_150 : decode cX9_expression 150 = .ok (.aload_n 0, 1) := by decide +kernel
theorem dX9_expression_151 : decode cX9_expression 151 = .ok (.iconst 5, 1) := by decide +kernel
theorem dX9_expression_152 : decode cX9_expression 152 = .ok (.invokevirtual 57, 3) := by decide +kernel
theorem dX9_expression_155 : decode cX9_expression 155 = .ok (.iadd, 1) := by decide +kernel
theorem dX9_expression_156 : decode cX9_expression 156 = .ok (.iconst 0, 1) := by decide +kernel
theorem dX9_expression_157 : decode cX9_expression 157 = .ok (.iload_n 3, 1) := by decide +kernel
theorem dX9_expression_158 : decode cX9_expression 158 = .ok (.iload 4, 2) := by decide +kernel
theorem dX9_expression_160 : decode cX9_expression 160 = .ok (.invokevirtual 74, 3) := by decide +kernel
theorem dX9_expression_163 : decode cX9_expression 163 = .ok (.ireturn, 1) := by decide +kernel
theorem dX9_statement_0 : decode cX9_statement 0 = .ok (.iload_n 1, 1) := by decide +kernel
theorem dX9_statement_1 : decode cX9_statement 1 = .ok (.ifCond .eq 12, 3) := by decide +kernel
theorem dX9_statement_13 : decode cX9_statement 13 = .ok (.aload_n 0, 1) := by decide +kernel
theorem dX9_statement_14 : decode cX9_statement 14 = .ok (.iconst 3, 1) := by decide +kernel
theorem dX9_statement_15 : decode cX9_statement 15 = .ok (.invokevirtual 57, 3) := by decide +kernel
theorem dX9_statement_18 : decode cX9_statement 18 = .ok (.goto 9, 3) := by decide +kernel
theorem dX9_statement_27 : decode cX9_statement 27 = .ok (.tableswitch 158 0 4 #[33, 51, 65, 108, 152], 33) := by decide +kernel
theorem dX9_statement_60 : decode cX9_statement 60 = .ok (.aload_n 0, 1) := by decide +kernel
theorem dX9_statement_61 : decode cX9_statement 61 = .ok (.bipush 13, 2) := by decide +kernel
theorem dX9_statement_63 : decode cX9_statement 63 = .ok (.aload_n 0, 1) := by decide +kernel
theorem dX9_statement_64 : decode cX9_statement 64 = .ok (.iconst 2, 1) := by decide +kernel
theorem dX9_statement_65 : decode cX9_statement 65 = .ok (.invokevirtual 57, 3) := by decide +kernel
theorem dX9_statement_68 : decode cX9_statement 68 = .ok (.aload_n 0, 1) := by decide +kernel
theorem dX9_statement_69 : decode cX9_statement 69 = .ok (.iconst 2, 1) := by decide +kernel
theorem dX9_statement_70 : decode cX9_statement 70 = .ok (.invokevirtual 77, 3) := by decide +kernel
theorem dX9_statement_73 : decode cX9_statement 73 = .ok (.iconst 0, 1) := by decide +kernel
theorem dX9_statement_74 : decode cX9_statement 74 = .ok (.invokevirtual 74, 3) := by decide +kernel
theorem dX9_statement_77 : decode cX9_statement 77 = .ok (.ireturn, 1) := by decide +kernel
theorem dX9_statement_78 : decode cX9_statement 78 = .ok (.aload_n 0, 1) := by decide +kernel
theorem dX9_statement_79 : decode cX9_statement 79 = .ok (.bipush 19, 2) := by decide +kernel
theorem dX9_statement_81 : decode cX9_statement 81 = .ok (.iconst 0, 1) := by decide +kernel
theorem dX9_statement_82 : decode cX9_statement 82 = .ok (.aload_n 0, 1) := by decide +kernel
theorem dX9_statement_83 : decode cX9_statement 83 = .ok (.iconst 2, 1) := by decide +kernel
theorem dX9_statement_84 : decode cX9_statement 84 = .ok (.invokevirtual 77, 3) := by decide +kernel
theorem dX9_statement_87 : decode cX9_statement 87 = .ok (.iconst 0, 1) := by decide +kernel
theorem dX9_statement_88 : decode cX9_statement 88 = .ok (.invokevirtual 74, 3) := by decide +kernel
theorem dX9_statement_91 : decode cX9_statement 91 = .ok (.ireturn, 1) := by decide +kernel
theorem dX9_statement_92 : decode cX9_statement 92 = .ok (.aload_n 0, 1) := by decide +kernel
theorem dX9_statement_93 : decode cX9_statement 93 = .ok (.iconst 4, 1) := by decide +kernel
theorem dX9_statement_94 : decode cX9_statement 94 = .ok (.invokevirtual 57, 3) := by decide +kernel
theorem dX9_statement_97 : decode cX9_statement 97 = .ok (.ifCond .ne 11, 3) := by decide +kernel
theorem dX9_statement_108 : decode cX9_statement 108 = .ok (.aload_n 0, 1) := by decide +kernel
theorem dX9_statement_109 : decode cX9_statement 109 = .ok (.iconst 0, 1) := by decide +kernel
theorem dX9_statement_110 : decode cX9_statement 110 = .ok (.aload_n 0, 1) := by decide +kernel
theorem dX9_statement_111 : decode cX9_statement 111 = .ok (.iconst 4, 1) := by decide +kernel
theorem dX9_statement_112 : decode cX9_statement 112 = .ok (.invokevirtual 57, 3) := by decide +kernel
theorem dX9_statement_115 : decode cX9_statement 115 = .ok (.iconst 0, 1) := by decide +kernel
theorem dX9_statement_116 : decode cX9_statement 116 = .ok (.iconst 0, 1) := by decide +kernel
theorem dX9_statement_117 : decode cX9_statement 117 = .ok (.invokevirtual 74, 3) := by decide +kernel
theorem dX9_statement_120 : decode cX9_statement 120 = .ok (.istore_n 2, 1) := by decide +kernel
theorem dX9_statement_121 : decode cX9_statement 121 = .ok (.aload_n 0, 1) := by decide +kernel
theorem dX9_statement_122 : decode cX9_statement 122 = .ok (.bipush 14, 2) := by decide +kernel
theorem dX9_statement_124 : decode cX9_statement 124 = .ok (.iconst 2, 1) := by decide +kernel
theorem dX9_statement_125 : decode cX9_statement 125 = .ok (.iload_n 2, 1) := by decide +kernel
theorem dX9_statement_126 : decode cX9_statement 126 = .ok (.aload_n 0, 1) := by decide +kernel
theorem dX9_statement_127 : decode cX9_statement 127 = .ok (.iconst 1, 1) := by decide +kernel
theorem dX9_statement_128 : decode cX9_statement 128 = .ok (.invokevirtual 77, 3) := by decide +kernel
theorem dX9_statement_131 : decode cX9_statement 131 = .ok (.invokevirtual 74, 3) := by decide +kernel
theorem dX9_statement_134 : decode cX9_statement 134 = .ok (.ireturn, 1) := by decide +kernel
theorem dX9_statement_100 : decode cX9_statement 100 = .ok (.aload_n 0, 1) := by decide +kernel
theorem dX9_statement_101 : decode cX9_statement 101 = .ok (.iconst 1, 1) := by decide +kernel
theorem dX9_statement_102 : decode cX9_statement 102 = .ok (.invokevirtual 77, 3) := by decide +kernel
theorem dX9_statement_105 : decode cX9_statement 105 = .ok (.goto 15, 3) := by decide +kernel
theorem dX9_statement_135 : decode cX9_statement 135 = .ok (.aload_n 0, 1) := by decide +kernel
theorem dX9_statement_136 : decode cX9_statement 136 = .ok (.iconst 1, 1) := by decide +kernel
theorem dX9_statement_137 : decode cX9_statement 137 = .ok (.invokevirtual 77, 3) := by decide +kernel
theorem dX9_statement_140 : decode cX9_statement 140 = .ok (.istore_n 3, 1) := by decide +kernel
theorem dX9_statement_141 : decode cX9_statement 141 = .ok (.aload_n 0, 1) := by decide +kernel
theorem dX9_statement_142 : decode cX9_statement 142 = .ok (.iload_n 1, 1) := by decide +kernel
theorem dX9_statement_143 : decode cX9_statement 143 = .ok (.iconst 1, 1) := by decide +kernel
theorem dX9_statement_144 : decode cX9_statement 144 = .ok (.isub, 1) := by decide +kernel
theorem dX9_statement_179 : decode cX9_statement 179 = .ok (.aload_n 0, 1) := by decide +kernel
theorem dX9_statement_180 : decode cX9_statement 180 = .ok (.iload_n 1, 1) := by decide +kernel
theorem dX9_statement_185 : decode cX9_statement 185 = .ok (.aload_n 0, 1) := by decide +kernel
theorem dX9_statement_186 : decode cX9_statement 186 = .ok (.iload_n 1, 1) := by decide +kernel
theorem dX9_statement_187 : decode cX9_statement 187 = .ok (.iconst 1, 1) := by decide +kernel
theorem dX9_statement_188 : decode cX9_statement 188 = .ok (.isub, 1) := by decide +kernel
theorem dX9_loop_0 : decode cX9_loop 0 = .ok (.aload_n 0, 1) := by decide +kernel
theorem dX9_loop_1 : decode cX9_loop 1 = .ok (.iconst 3, 1) := by decide +kernel
theorem dX9_loop_2 : decode cX9_loop 2 = .ok (.invokevirtual 57, 3) := by decide +kernel
theorem dX9_loop_5 : decode cX9_loop 5 = .ok (.istore_n 2, 1) := by decide +kernel
theorem dX9_loop_6 : decode cX9_loop 6 = .ok (.aload_n 0, 1) := by decide +kernel
theorem dX9_loop_7 : decode cX9_loop 7 = .ok (.bipush 13, 2) := by decide +kernel
theorem dX9_loop_9 : decode cX9_loop 9 = .ok (.iconst 4, 1) := by decide +kernel
theorem dX9_loop_10 : decode cX9_loop 10 = .ok (.aload_n 0, 1) := by decide +kernel
theorem dX9_loop_11 : decode cX9_loop 11 = .ok (.iconst 0, 1) := by decide +kernel
theorem dX9_loop_12 : decode cX9_loop 12 = .ok (.iconst 0, 1) := by decide +kernel
theorem dX9_loop_13 : decode cX9_loop 13 = .ok (.iconst 0, 1) := by decide +kernel
theorem dX9_loop_14 : decode cX9_loop 14 = .ok (.iconst 0, 1) := by decide +kernel
theorem dX9_loop_15 : decode cX9_loop 15 = .ok (.invokevirtual 74, 3) := by decide +kernel
theorem dX9_loop_18 : decode cX9_loop 18 = .ok (.iconst 0, 1) := by decide +kernel
theorem dX9_loop_19 : decode cX9_loop 19 = .ok (.invokevirtual 74, 3) := by decide +kernel
theorem dX9_loop_22 : decode cX9_loop 22 = .ok (.istore_n 3, 1) := by decide +kernel
theorem dX9_loop_23 : decode cX9_loop 23 = .ok (.aload_n 0, 1) := by decide +kernel
theorem dX9_loop_24 : decode cX9_loop 24 = .ok (.iconst 1, 1) := by decide +kernel
theorem dX9_loop_25 : decode cX9_loop 25 = .ok (.iconst 4, 1) := by decide +kernel
theorem dX9_loop_26 : decode cX9_loop 26 = .ok (.iconst 0, 1) := by decide +kernel
theorem dX9_loop_27 : decode cX9_loop 27 = .ok (.iconst 0, 1) := by decide +kernel
theorem dX9_loop_28 : decode cX9_loop 28 = .ok (.invokevirtual 74, 3) := by decide +kernel
theorem dX9_loop_31 : decode cX9_loop 31 = .ok (.istore 4, 2) := by decide +kernel
theorem dX9_loop_33 : decode cX9_loop 33 = .ok (.aload_n 0, 1) := by decide +kernel
theorem dX9_loop_34 : decode cX9_loop 34 = .ok (.bipush 7, 2) := by decide +kernel
theorem dX9_loop_36 : decode cX9_loop 36 = .ok (.iconst 0, 1) := by decide +kernel
theorem dX9_loop_37 : decode cX9_loop 37 = .ok (.iload 4, 2) := by decide +kernel
theorem dX9_loop_39 : decode cX9_loop 39 = .ok (.aload_n 0, 1) := by decide +kernel
theorem dX9_loop_40 : decode cX9_loop 40 = .ok (.iconst 0, 1) := by decide +kernel
theorem dX9_loop_41 : decode cX9_loop 41 = .ok (.iconst 1, 1) := by decide +kernel
theorem dX9_loop_42 : decode cX9_loop 42 = .ok (.aload_n 0, 1) := by decide +kernel
theorem dX9_loop_43 : decode cX9_loop 43 = .ok (.iconst 4, 1) := by decide +kernel
theorem dX9_loop_44 : decode cX9_loop 44 = .ok (.invokevirtual 57, 3) := by decide +kernel
theorem dX9_loop_47 : decode cX9_loop 47 = .ok (.iadd, 1) := by decide +kernel
theorem dX9_loop_48 : decode cX9_loop 48 = .ok (.iconst 0, 1) := by decide +kernel
theorem dX9_loop_49 : decode cX9_loop 49 = .ok (.iconst 0, 1) := by decide +kernel
theorem dX9_loop_50 : decode cX9_loop 50 = .ok (.invokevirtual 74, 3) := by decide +kernel
theorem dX9_loop_53 : decode cX9_loop 53 = .ok (.invokevirtual 74, 3) := by decide +kernel
theorem dX9_loop_56 : decode cX9_loop 56 = .ok (.istore 5, 2) := by decide +kernel
theorem dX9_loop_58 : decode cX9_loop 58 = .ok (.aload_n 0, 1) := by decide +kernel
theorem dX9_loop_59 : decode cX9_loop 59 = .ok (.iconst 0, 1) := by decide +kernel
theorem dX9_loop_60 : decode cX9_loop 60 = .ok (.invokevirtual 80, 3) := by decide +kernel
theorem dX9_loop_63 : decode cX9_loop 63 = .ok (.istore 6, 2) := by decide +kernel
theorem dX9_loop_65 : decode cX9_loop 65 = .ok (.aload_n 0, 1) := by decide +kernel
theorem dX9_loop_66 : decode cX9_loop 66 = .ok (.iconst 3, 1) := by decide +kernel
theorem dX9_loop_67 : decode cX9_loop 67 = .ok (.invokevirtual 57, 3) := by decide +kernel
theorem dX9_loop_70 : decode cX9_loop 70 = .ok (.ifCond .ne 43, 3) := by decide +kernel
theorem dX9_loop_113 : decode cX9_loop 113 = .ok (.aload_n 0, 1) := by decide +kernel
theorem dX9_loop_114 : decode cX9_loop 114 = .ok (.iconst 1, 1) := by decide +kernel
theorem dX9_loop_115 : decode cX9_loop 115 = .ok (.iconst 4, 1) := by decide +kernel
theorem dX9_loop_116 : decode cX9_loop 116 = .ok (.iconst 0, 1) := by decide +kernel
theorem dX9_loop_117 : decode cX9_loop 117 = .ok (.iconst 0, 1) := by decide +kernel
theorem dX9_loop_118 : decode cX9_loop 118 = .ok (.invokevirtual 74, 3) := by decide +kernel
theorem dX9_loop_121 : decode cX9_loop 121 = .ok (.istore 7, 2) := by decide +kernel
theorem dX9_loop_123 : decode cX9_loop 123 = .ok (.aload_n 0, 1) := by decide +kernel
theorem dX9_loop_124 : decode cX9_loop 124 = .ok (.iconst 3, 1) := by decide +kernel
theorem dX9_loop_125 : decode cX9_loop 125 = .ok (.iconst 0, 1) := by decide +kernel
theorem dX9_loop_126 : decode cX9_loop 126 = .ok (.iload 7, 2) := by decide +kernel
theorem dX9_loop_128 : decode cX9_loop 128 = .ok (.aload_n 0, 1) := by decide +kernel
theorem dX9_loop_129 : decode cX9_loop 129 = .ok (.iconst 0, 1) := by decide +kernel
theorem dX9_loop_130 : decode cX9_loop 130 = .ok (.iconst 1, 1) := by decide +kernel
theorem dX9_loop_131 : decode cX9_loop 131 = .ok (.iconst 0, 1) := by decide +kernel
theorem dX9_loop_132 : decode cX9_loop 132 = .ok (.iconst 0, 1) := by decide +kernel
theorem dX9_loop_133 : decode cX9_loop 133 = .ok (.invokevirtual 74, 3) := by decide +kernel
theorem dX9_loop_136 : decode cX9_loop 136 = .ok (.invokevirtual 74, 3) := by decide +kernel
theorem dX9_loop_139 : decode cX9_loop 139 = .ok (.istore 8, 2) := by decide +kernel
theorem dX9_loop_141 : decode cX9_loop 141 = .ok (.aload_n 0, 1) := by decide +kernel
theorem dX9_loop_142 : decode cX9_loop 142 = .ok (.bipush 12, 2) := by decide +kernel
theorem dX9_loop_144 : decode cX9_loop 144 = .ok (.iconst 0, 1) := by decide +kernel
theorem dX9_loop_145 : decode cX9_loop 145 = .ok (.iload 6, 2) := by decide +kernel
theorem dX9_loop_147 : decode cX9_loop 147 = .ok (.aload_n 0, 1) := by decide +kernel
theorem dX9_loop_148 : decode cX9_loop 148 = .ok (.bipush 13, 2) := by decide +kernel
theorem dX9_loop_150 : decode cX9_loop 150 = .ok (.iconst 4, 1) := by decide +kernel
theorem dX9_loop_151 : decode cX9_loop 151 = .ok (.iload 8, 2) := by decide +kernel
theorem dX9_loop_153 : decode cX9_loop 153 = .ok (.iconst 0, 1) := by decide +kernel
theorem dX9_loop_154 : decode cX9_loop 154 = .ok (.invokevirtual 74, 3) := by decide +kernel
theorem dX9_loop_157 : decode cX9_loop 157 = .ok (.invokevirtual 74, 3) := by decide +kernel
theorem dX9_loop_160 : decode cX9_loop 160 = .ok (.istore 9, 2) := by decide +kernel
theorem dX9_loop_162 : decode cX9_loop 162 = .ok (.aload_n 0, 1) := by decide +kernel
theorem dX9_loop_163 : decode cX9_loop 163 = .ok (.bipush 12, 2) := by decide +kernel
theorem dX9_loop_165 : decode cX9_loop 165 = .ok (.iconst 0, 1) := by decide +kernel
theorem dX9_loop_166 : decode cX9_loop 166 = .ok (.iload_n 3, 1) := by decide +kernel
theorem dX9_loop_167 : decode cX9_loop 167 = .ok (.aload_n 0, 1) := by decide +kernel
theorem dX9_loop_168 : decode cX9_loop 168 = .ok (.bipush 16, 2) := by decide +kernel
theorem dX9_loop_170 : decode cX9_loop 170 = .ok (.iload_n 2, 1) := by decide +kernel
theorem dX9_loop_171 : decode cX9_loop 171 = .ok (.iload 5, 2) := by decide +kernel
theorem dX9_loop_173 : decode cX9_loop 173 = .ok (.iload 9, 2) := by decide +kernel
theorem dX9_loop_175 : decode cX9_loop 175 = .ok (.invokevirtual 74, 3) := by decide +kernel
theorem dX9_loop_178 : decode cX9_loop 178 = .ok (.invokevirtual 74, 3) := by decide +kernel
theorem dX9_loop_181 : decode cX9_loop 181 = .ok (.ireturn, 1) := by decide +kernel
theorem dX9_loop_73 : decode cX9_loop 73 = .ok (.aload_n 0, 1) := by decide +kernel
theorem dX9_loop_74 : decode cX9_loop 74 = .ok (.iconst 1, 1) := by decide +kernel
theorem dX9_loop_75 : decode cX9_loop 75 = .ok (.invokevirtual 77, 3) := by decide +kernel
theorem dX9_loop_78 : decode cX9_loop 78 = .ok (.istore 7, 2) := by decide +kernel
theorem dX9_loop_80 : decode cX9_loop 80 = .ok (.aload_n 0, 1) := by decide +kernel
theorem dX9_loop_81 : decode cX9_loop 81 = .ok (.bipush 17, 2) := by decide +kernel
theorem dX9_loop_83 : decode cX9_loop 83 = .ok (.iload_n 2, 1) := by decide +kernel
theorem dX9_loop_84 : decode cX9_loop 84 = .ok (.iconst 0, 1) := by decide +kernel
theorem dX9_loop_85 : decode cX9_loop 85 = .ok (.iconst 0, 1) := by decide +kernel
theorem dX9_loop_86 : decode cX9_loop 86 = .ok (.invokevirtual 74, 3) := by decide +kernel
theorem dX9_loop_89 : decode cX9_loop 89 = .ok (.istore 8, 2) := by decide +kernel
theorem dX9_loop_91 : decode cX9_loop 91 = .ok (.aload_n 0, 1) := by decide +kernel
theorem dX9_loop_92 : decode cX9_loop 92 = .ok (.bipush 12, 2) := by decide +kernel
theorem dX9_loop_94 : decode cX9_loop 94 = .ok (.iconst 0, 1) := by decide +kernel
theorem dX9_loop_95 : decode cX9_loop 95 = .ok (.iload 6, 2) := by decide +kernel
theorem dX9_loop_97 : decode cX9_loop 97 = .ok (.aload_n 0, 1) := by decide +kernel
theorem dX9_loop_98 : decode cX9_loop 98 = .ok (.bipush 15, 2) := by decide +kernel
theorem dX9_loop_100 : decode cX9_loop 100 = .ok (.iconst (-1), 1) := by decide +kernel
theorem dX9_loop_101 : decode cX9_loop 101 = .ok (.iload 7, 2) := by decide +kernel
theorem dX9_loop_103 : decode cX9_loop 103 = .ok (.iload 8, 2) := by decide +kernel
theorem dX9_loop_105 : decode cX9_loop 105 = .ok (.invokevirtual 74, 3) := by decide +kernel
theorem dX9_loop_108 : decode cX9_loop 108 = .ok (.invokevirtual 74, 3) := by decide +kernel
theorem dX9_loop_111 : decode cX9_loop 111 = .ok (.istore 6, 2) := by decide +kernel
theorem dX9_statement_4 : decode cX9_statement 4 = .ok (.aload_n 0, 1) := by decide +kernel
theorem dX9_statement_5 : decode cX9_statement 5 = .ok (.getfield 68, 3) := by decide +kernel
theorem dX9_statement_8 : decode cX9_statement 8 = .ok (.bipush 55, 2) := by decide +kernel
theorem dX9_statement_10 : decode cX9_statement 10 = .ok (.if_icmp .le 11, 3) := by decide +kernel
theorem dX9_statement_21 : decode cX9_statement 21 = .ok (.aload_n 0, 1) := by decide +kernel
theorem dX9_statement_22 : decode cX9_statement 22 = .ok (.bipush 7, 2) := by decide +kernel
theorem dX9_statement_24 : decode cX9_statement 24 = .ok (.invokevirtual 57, 3) := by decide +kernel
theorem dX9_statement_145 : decode cX9_statement 145 = .ok (.invokevirtual 80, 3) := by decide +kernel
theorem dX9_statement_148 : decode cX9_statement 148 = .ok (.istore 4, 2) := by decide +kernel
theorem dX9_statement_150 : decode cX9_statement 150 = .ok (.aload_n 0, 1) := by decide +kernel
theorem dX9_statement_151 : decode cX9_statement 151 = .ok (.bipush 15, 2) := by decide +kernel
theorem dX9_statement_153 : decode cX9_statement 153 = .ok (.aload_n 0, 1) := by decide +kernel
theorem dX9_statement_154 : decode cX9_statement 154 = .ok (.iconst 2, 1) := by decide +kernel
theorem dX9_statement_155 : decode cX9_statement 155 = .ok (.invokevirtual 57, 3) := by decide +kernel
theorem dX9_statement_158 : decode cX9_statement 158 = .ok (.ifCond .ne 7, 3) := by decide +kernel
theorem dX9_statement_165 : decode cX9_statement 165 = .ok (.aload_n 0, 1) := by decide +kernel
theorem dX9_statement_166 : decode cX9_statement 166 = .ok (.iload_n 1, 1) := by decide +kernel
theorem dX9_statement_167 : decode cX9_statement 167 = .ok (.iconst 1, 1) := by decide +kernel
theorem dX9_statement_168 : decode cX9_statement 168 = .ok (.isub, 1) := by decide +kernel
theorem dX9_statement_169 : decode cX9_statement 169 = .ok (.invokevirtual 80, 3) := by decide +kernel
theorem dX9_statement_172 : decode cX9_statement 172 = .ok (.iload_n 3, 1) := by decide +kernel
theorem dX9_statement_173 : decode cX9_statement 173 = .ok (.iload 4, 2) := by decide +kernel
theorem dX9_statement_175 : decode cX9_statement 175 = .ok (.invokevirtual 74, 3) := by decide +kernel
theorem dX9_statement_178 : decode cX9_statement 178 = .ok (.ireturn, 1) := by decide +kernel
theorem dX9_statement_161 : decode cX9_statement 161 = .ok (.iconst (-1), 1) := by decide +kernel
theorem dX9_statement_162 : decode cX9_statement 162 = .ok (.goto 10, 3) := by decide +kernel
theorem dX9_statement_181 : decode cX9_statement 181 = .ok (.invokevirtual 83, 3) := by decide +kernel
theorem dX9_statement_184 : decode cX9_statement 184 = .ok (.ireturn, 1) := by decide +kernel
theorem dX9_statement_189 : decode cX9_statement 189 = .ok (.invokevirtual 80, 3) := by decide +kernel
theorem dX9_statement_192 : decode cX9_statement 192 = .ok (.istore 5, 2) := by decide +kernel
theorem dX9_statement_194 : decode cX9_statement 194 = .ok (.aload_n 0, 1) := by decide +kernel
theorem dX9_statement_195 : decode cX9_statement 195 = .ok (.bipush 12, 2) := by decide +kernel
theorem dX9_statement_197 : decode cX9_statement 197 = .ok (.iconst 0, 1) := by decide +kernel
theorem dX9_statement_198 : decode cX9_statement 198 = .ok (.iload 5, 2) := by decide +kernel
theorem dX9_statement_200 : decode cX9_statement 200 = .ok (.aload_n 0, 1) := by decide +kernel
theorem dX9_statement_201 : decode cX9_statement 201 = .ok (.iload_n 1, 1) := by decide +kernel
theorem dX9_statement_202 : decode cX9_statement 202 = .ok (.iconst 1, 1) := by decide +kernel
theorem dX9_statement_203 : decode cX9_statement 203 = .ok (.isub, 1) := by decide +kernel
theorem dX9_statement_204 : decode cX9_statement 204 = .ok (.invokevirtual 80, 3) := by decide +kernel
theorem dX9_statement_207 : decode cX9_statement 207 = .ok (.invokevirtual 74, 3) := by decide +kernel
theorem dX9_statement_210 : decode cX9_statement 210 = .ok (.ireturn, 1) := by decide +kernel
