theorem dX3_goByProc_114 : decode cX3_goByProc 114 = .ok (.aload_n 0, 1) := by decide +kernel
theorem dX3_goByProc_115 : decode cX3_goByProc 115 = .ok (.getfield 14, 3) := by decide +kernel
theorem dX3_goByProc_118 : decode cX3_goByProc 118 = .ok (.iload_n 1, 1) := by decide +kernel
theorem dX3_goByProc_119 : decode cX3_goByProc 119 = .ok (.iconst 1, 1) := by decide +kernel
theorem dX3_goByProc_120 : decode cX3_goByProc 120 = .ok (.invokevirtual 221, 3) := by decide +kernel
theorem dX3_goByProc_123 : decode cX3_goByProc 123 = .ok (.invokevirtual 93, 3) := by decide +kernel
theorem dX3_goByProc_89 : decode cX3_goByProc 89 = .ok (.aload_n 0, 1) := by decide +kernel
theorem dX3_goByProc_90 : decode cX3_goByProc 90 = .ok (.bipush 7, 2) := by decide +kernel
theorem dX3_goByProc_92 : decode cX3_goByProc 92 = .ok (.iload_n 3, 1) := by decide +kernel
theorem dX3_goByProc_93 : decode cX3_goByProc 93 = .ok (.invokevirtual 120, 3) := by decide +kernel
theorem dX3_goByProc_96 : decode cX3_goByProc 96 = .ok (.goto 30, 3) := by decide +kernel
theorem dX3_goByProc_69 : decode cX3_goByProc 69 = .ok (.aload_n 0, 1) := by decide +kernel
theorem dX3_goByProc_70 : decode cX3_goByProc 70 = .ok (.iconst 4, 1) := by decide +kernel
theorem dX3_goByProc_71 : decode cX3_goByProc 71 = .ok (.iload_n 3, 1) := by decide +kernel
theorem dX3_goByProc_72 : decode cX3_goByProc 72 = .ok (.invokevirtual 120, 3) := by decide +kernel
theorem dX3_goByProc_75 : decode cX3_goByProc 75 = .ok (.goto 51, 3) := by decide +kernel
theorem dX3_refer_0 : decode cX3_refer 0 = .ok (.aload_n 0, 1) := by decide +kernel
theorem dX3_refer_1 : decode cX3_refer 1 = .ok (.getfield 70, 3) := by decide +kernel
theorem dX3_refer_4 : decode cX3_refer 4 = .ok (.getfield 228, 3) := by decide +kernel
theorem dX3_refer_7 : decode cX3_refer 7 = .ok (.aload_n 0, 1) := by decide +kernel
theorem dX3_refer_8 : decode cX3_refer 8 = .ok (.getfield 74, 3) := by decide +kernel
theorem dX3_refer_11 : decode cX3_refer 11 = .ok (.getfield 206, 3) := by decide +kernel
theorem dX3_refer_14 : decode cX3_refer 14 = .ok (.iload_n 2, 1) := by decide +kernel
theorem dX3_refer_15 : decode cX3_refer 15 = .ok (.iaload, 1) := by decide +kernel
theorem dX3_refer_16 : decode cX3_refer 16 = .ok (.iaload, 1) := by decide +kernel
theorem dX3_refer_17 : decode cX3_refer 17 = .ok (.iconst 1, 1) := by decide +kernel
theorem dX3_refer_18 : decode cX3_refer 18 = .ok (.if_icmp .ne 7, 3) := by decide +kernel
theorem dX3_refer_25 : decode cX3_refer 25 = .ok (.iconst 0, 1) := by decide +kernel
theorem dX3_refer_26 : decode cX3_refer 26 = .ok (.istore_n 3, 1) := by decide +kernel
theorem dX3_refer_27 : decode cX3_refer 27 = .ok (.aload_n 0, 1) := by decide +kernel
theorem dX3_refer_28 : decode cX3_refer 28 = .ok (.iload_n 3, 1) := by decide +kernel
theorem dX3_refer_29 : decode cX3_refer 29 = .ok (.ifCond .eq 15, 3) := by decide +kernel
theorem dX3_refer_44 : decode cX3_refer 44 = .ok (.iload_n 1, 1) := by decide +kernel
theorem dX3_refer_45 : decode cX3_refer 45 = .ok (.iconst 0, 1) := by decide +kernel
theorem dX3_refer_46 : decode cX3_refer 46 = .ok (.invokevirtual 142, 3) := by decide +kernel
theorem dX3_refer_49 : decode cX3_refer 49 = .ok (.return_, 1) := by decide +kernel
theorem dX3_refer_21 : decode cX3_refer 21 = .ok (.iconst 1, 1) := by decide +kernel
theorem dX3_refer_22 : decode cX3_refer 22 = .ok (.goto 4, 3) := by decide +kernel
theorem dX3_refer_32 : decode cX3_refer 32 = .ok (.aload_n 0, 1) := by decide +kernel
theorem dX3_refer_33 : decode cX3_refer 33 = .ok (.getfield 14, 3) := by decide +kernel
theorem dX3_refer_36 : decode cX3_refer 36 = .ok (.iload_n 1, 1) := by decide +kernel
theorem dX3_refer_37 : decode cX3_refer 37 = .ok (.iconst 0, 1) := by decide +kernel
theorem dX3_refer_38 : decode cX3_refer 38 = .ok (.invokevirtual 221, 3) := by decide +kernel
theorem dX3_refer_41 : decode cX3_refer 41 = .ok (.goto 4, 3) := by decide +kernel
theorem dX3_skip_0 : decode cX3_skip 0 = .ok (.aload_n 0, 1) := by decide +kernel
theorem dX3_skip_1 : decode cX3_skip 1 = .ok (.getfield 23, 3) := by decide +kernel
theorem dX3_skip_4 : decode cX3_skip 4 = .ok (.aload_n 0, 1) := by decide +kernel
theorem dX3_skip_5 : decode cX3_skip 5 = .ok (.getfield 49, 3) := by decide +kernel
theorem dX3_skip_8 : decode cX3_skip 8 = .ok (.iconst 0, 1) := by decide +kernel
theorem dX3_skip_9 : decode cX3_skip 9 = .ok (.invokevirtual 221, 3) := by decide +kernel
theorem dX3_skip_12 : decode cX3_skip 12 = .ok (.istore_n 3, 1) := by decide +kernel
theorem dX3_skip_13 : decode cX3_skip 13 = .ok (.iload_n 1, 1) := by decide +kernel
theorem dX3_skip_14 : decode cX3_skip 14 = .ok (.ifCond .eq 29, 3) := by decide +kernel
theorem dX3_skip_43 : decode cX3_skip 43 = .ok (.return_, 1) := by decide +kernel
theorem dX3_skip_17 : decode cX3_skip 17 = .ok (.aload_n 0, 1) := by decide +kernel
theorem dX3_skip_18 : decode cX3_skip 18 = .ok (.getfield 62, 3) := by decide +kernel
theorem dX3_skip_21 : decode cX3_skip 21 = .ok (.iload_n 3, 1) := by decide +kernel
theorem dX3_skip_22 : decode cX3_skip 22 = .ok (.invokevirtual 231, 3) := by decide +kernel
theorem dX3_skip_25 : decode cX3_skip 25 = .ok (.ifCond .eq 18, 3) := by decide +kernel
theorem dX3_skip_28 : decode cX3_skip 28 = .ok (.aload_n 0, 1) := by decide +kernel
theorem dX3_skip_29 : decode cX3_skip 29 = .ok (.aload_n 0, 1) := by decide +kernel
theorem dX3_skip_30 : decode cX3_skip 30 = .ok (.getfield 74, 3) := by decide +kernel
theorem dX3_skip_33 : decode cX3_skip 33 = .ok (.getfield 237, 3) := by decide +kernel
theorem dX3_skip_36 : decode cX3_skip 36 = .ok (.iload_n 3, 1) := by decide +kernel
theorem dX3_skip_37 : decode cX3_skip 37 = .ok (.iaload, 1) := by decide +kernel
theorem dX3_skip_38 : decode cX3_skip 38 = .ok (.iload_n 2, 1) := by decide +kernel
theorem dX3_skip_39 : decode cX3_skip 39 = .ok (.iadd, 1) := by decide +kernel
theorem dX3_skip_40 : decode cX3_skip 40 = .ok (.putfield 46, 3) := by decide +kernel
theorem dX3_later_0 : decode cX3_later 0 = .ok (.aload_n 0, 1) := by decide +kernel
theorem dX3_later_1 : decode cX3_later 1 = .ok (.aload_n 0, 1) := by decide +kernel
theorem dX3_later_2 : decode cX3_later 2 = .ok (.getfield 46, 3) := by decide +kernel
theorem dX3_later_5 : decode cX3_later 5 = .ok (.aload_n 0, 1) := by decide +kernel
theorem dX3_later_6 : decode cX3_later 6 = .ok (.getfield 49, 3) := by decide +kernel
theorem dX3_later_9 : decode cX3_later 9 = .ok (.invokevirtual 142, 3) := by decide +kernel
theorem dX3_later_12 : decode cX3_later 12 = .ok (.aload_n 0, 1) := by decide +kernel
theorem dX3_later_13 : decode cX3_later 13 = .ok (.iconst 1, 1) := by decide +kernel
theorem dX3_later_14 : decode cX3_later 14 = .ok (.aload_n 0, 1) := by decide +kernel
theorem dX3_later_15 : decode cX3_later 15 = .ok (.getfield 74, 3) := by decide +kernel
theorem dX3_later_18 : decode cX3_later 18 = .ok (.getfield 139, 3) := by decide +kernel
theorem dX3_later_21 : decode cX3_later 21 = .ok (.iload_n 1, 1) := by decide +kernel
theorem dX3_later_22 : decode cX3_later 22 = .ok (.iaload, 1) := by decide +kernel
theorem dX3_later_23 : decode cX3_later 23 = .ok (.invokevirtual 193, 3) := by decide +kernel
theorem dX3_later_26 : decode cX3_later 26 = .ok (.return_, 1) := by decide +kernel
theorem dX3_goBack_0 : decode cX3_goBack 0 = .ok (.aload_n 0, 1) := by decide +kernel
theorem dX3_goBack_1 : decode cX3_goBack 1 = .ok (.getfield 26, 3) := by decide +kernel
theorem dX3_goBack_4 : decode cX3_goBack 4 = .ok (.getfield 200, 3) := by decide +kernel
theorem dX3_goBack_7 : decode cX3_goBack 7 = .ok (.iconst 1, 1) := by decide +kernel
theorem dX3_goBack_8 : decode cX3_goBack 8 = .ok (.isub, 1) := by decide +kernel
theorem dX3_goBack_9 : decode cX3_goBack 9 = .ok (.istore_n 1, 1) := by decide +kernel
theorem dX3_goBack_10 : decode cX3_goBack 10 = .ok (.aload_n 0, 1) := by decide +kernel
theorem dX3_goBack_11 : decode cX3_goBack 11 = .ok (.aload_n 0, 1) := by decide +kernel
theorem dX3_goBack_12 : decode cX3_goBack 12 = .ok (.getfield 26, 3) := by decide +kernel
theorem dX3_goBack_15 : decode cX3_goBack 15 = .ok (.iload_n 1, 1) := by decide +kernel
theorem dX3_goBack_16 : decode cX3_goBack 16 = .ok (.iconst 0, 1) := by decide +kernel
theorem dX3_goBack_17 : decode cX3_goBack 17 = .ok (.invokevirtual 221, 3) := by decide +kernel
theorem dX3_goBack_20 : decode cX3_goBack 20 = .ok (.putfield 46, 3) := by decide +kernel
theorem dX3_goBack_23 : decode cX3_goBack 23 = .ok (.aload_n 0, 1) := by decide +kernel
theorem dX3_goBack_24 : decode cX3_goBack 24 = .ok (.aload_n 0, 1) := by decide +kernel
theorem dX3_goBack_25 : decode cX3_goBack 25 = .ok (.getfield 26, 3) := by decide +kernel
theorem dX3_goBack_28 : decode cX3_goBack 28 = .ok (.iload_n 1, 1) := by decide +kernel
theorem dX3_goBack_29 : decode cX3_goBack 29 = .ok (.iconst 1, 1) := by decide +kernel
theorem dX3_goBack_30 : decode cX3_goBack 30 = .ok (.invokevirtual 221, 3) := by decide +kernel
theorem dX3_goBack_33 : decode cX3_goBack 33 = .ok (.putfield 49, 3) := by decide +kernel
theorem dX3_goBack_36 : decode cX3_goBack 36 = .ok (.aload_n 0, 1) := by decide +kernel
theorem dX3_goBack_37 : decode cX3_goBack 37 = .ok (.aload_n 0, 1) := by decide +kernel
theorem dX3_goBack_38 : decode cX3_goBack 38 = .ok (.getfield 26, 3) := by decide +kernel
theorem dX3_goBack_41 : decode cX3_goBack 41 = .ok (.iload_n 1, 1) := by decide +kernel
theorem dX3_goBack_42 : decode cX3_goBack 42 = .ok (.iconst 2, 1) := by decide +kernel
theorem dX3_goBack_43 : decode cX3_goBack 43 = .ok (.invokevirtual 221, 3) := by decide +kernel
theorem dX3_goBack_46 : decode cX3_goBack 46 = .ok (.putfield 52, 3) := by decide +kernel
theorem dX3_goBack_49 : decode cX3_goBack 49 = .ok (.aload_n 0, 1) := by decide +kernel
theorem dX3_goBack_50 : decode cX3_goBack 50 = .ok (.aload_n 0, 1) := by decide +kernel
theorem dX3_goBack_51 : decode cX3_goBack 51 = .ok (.getfield 26, 3) := by decide +kernel
theorem dX3_goBack_54 : decode cX3_goBack 54 = .ok (.iload_n 1, 1) := by decide +kernel
theorem dX3_goBack_55 : decode cX3_goBack 55 = .ok (.iconst 3, 1) := by decide +kernel
theorem dX3_goBack_56 : decode cX3_goBack 56 = .ok (.invokevirtual 221, 3) := by decide +kernel
theorem dX3_goBack_59 : decode cX3_goBack 59 = .ok (.putfield 55, 3) := by decide +kernel
theorem dX3_goBack_62 : decode cX3_goBack 62 = .ok (.aload_n 0, 1) := by decide +kernel
theorem dX3_goBack_63 : decode cX3_goBack 63 = .ok (.getfield 29, 3) := by decide +kernel
theorem dX3_goBack_66 : decode cX3_goBack 66 = .ok (.aload_n 0, 1) := by decide +kernel
theorem dX3_goBack_67 : decode cX3_goBack 67 = .ok (.getfield 26, 3) := by decide +kernel
theorem dX3_goBack_70 : decode cX3_goBack 70 = .ok (.iload_n 1, 1) := by decide +kernel
theorem dX3_goBack_71 : decode cX3_goBack 71 = .ok (.iconst 4, 1) := by decide +kernel
theorem dX3_goBack_72 : decode cX3_goBack 72 = .ok (.invokevirtual 221, 3) := by decide +kernel
theorem dX3_goBack_75 : decode cX3_goBack 75 = .ok (.invokevirtual 111, 3) := by decide +kernel
theorem dX3_goBack_78 : decode cX3_goBack 78 = .ok (.aload_n 0, 1) := by decide +kernel
theorem dX3_goBack_79 : decode cX3_goBack 79 = .ok (.getfield 26, 3) := by decide +kernel
theorem dX3_goBack_82 : decode cX3_goBack 82 = .ok (.iload_n 1, 1) := by decide +kernel
theorem dX3_goBack_83 : decode cX3_goBack 83 = .ok (.invokevirtual 111, 3) := by decide +kernel
theorem dX3_goBack_86 : decode cX3_goBack 86 = .ok (.iload_n 1, 1) := by decide +kernel
theorem dX3_goBack_87 : decode cX3_goBack 87 = .ok (.ifCond .ne 19, 3) := by decide +kernel
theorem dX3_goBack_106 : decode cX3_goBack 106 = .ok (.return_, 1) := by decide +kernel
theorem dX3_goBack_90 : decode cX3_goBack 90 = .ok (.aload_n 0, 1) := by decide +kernel
theorem dX3_goBack_91 : decode cX3_goBack 91 = .ok (.getfield 35, 3) := by decide +kernel
theorem dX3_goBack_94 : decode cX3_goBack 94 = .ok (.aload_n 0, 1) := by decide +kernel
theorem dX3_goBack_95 : decode cX3_goBack 95 = .ok (.invokevirtual 189, 3) := by decide +kernel
theorem dX3_goBack_98 : decode cX3_goBack 98 = .ok (.putfield 264, 3) := by decide +kernel
theorem dX3_goBack_101 : decode cX3_goBack 101 = .ok (.aload_n 0, 1) := by decide +kernel
theorem dX3_goBack_102 : decode cX3_goBack 102 = .ok (.iconst 1, 1) := by decide +kernel
theorem dX3_goBack_103 : decode cX3_goBack 103 = .ok (.putfield 58, 3) := by decide +kernel
theorem dX3_copy_0 : decode cX3_copy 0 = .ok (.aload_n 0, 1) := by decide +kernel
theorem dX3_copy_1 : decode cX3_copy 1 = .ok (.getfield 14, 3) := by decide +kernel
theorem dX3_copy_4 : decode cX3_copy 4 = .ok (.iload_n 1, 1) := by decide +kernel
theorem dX3_copy_5 : decode cX3_copy 5 = .ok (.iconst 0, 1) := by decide +kernel
theorem dX3_copy_6 : decode cX3_copy 6 = .ok (.invokevirtual 221, 3) := by decide +kernel
theorem dX3_copy_9 : decode cX3_copy 9 = .ok (.istore_n 2, 1) := by decide +kernel
theorem dX3_copy_10 : decode cX3_copy 10 = .ok (.aload_n 0, 1) := by decide +kernel
theorem dX3_copy_11 : decode cX3_copy 11 = .ok (.getfield 14, 3) := by decide +kernel
theorem dX3_copy_14 : decode cX3_copy 14 = .ok (.iload_n 1, 1) := by decide +kernel
theorem dX3_copy_15 : decode cX3_copy 15 = .ok (.iconst 1, 1) := by decide +kernel
theorem dX3_copy_16 : decode cX3_copy 16 = .ok (.invokevirtual 221, 3) := by decide +kernel
theorem dX3_copy_19 : decode cX3_copy 19 = .ok (.istore_n 3, 1) := by decide +kernel
theorem dX3_copy_20 : decode cX3_copy 20 = .ok (.aload_n 0, 1) := by decide +kernel
theorem dX3_copy_21 : decode cX3_copy 21 = .ok (.getfield 14, 3) := by decide +kernel
theorem dX3_copy_24 : decode cX3_copy 24 = .ok (.getfield 200, 3) := by decide +kernel
theorem dX3_copy_27 : decode cX3_copy 27 = .ok (.istore 4, 2) := by decide +kernel
theorem dX3_copy_29 : decode cX3_copy 29 = .ok (.iconst 0, 1) := by decide +kernel
theorem dX3_copy_30 : decode cX3_copy 30 = .ok (.istore 5, 2) := by decide +kernel
theorem dX3_copy_32 : decode cX3_copy 32 = .ok (.iload 5, 2) := by decide +kernel
theorem dX3_copy_34 : decode cX3_copy 34 = .ok (.iload_n 3, 1) := by decide +kernel
theorem dX3_copy_35 : decode cX3_copy 35 = .ok (.if_icmp .ge 36, 3) := by decide +kernel
theorem dX3_copy_38 : decode cX3_copy 38 = .ok (.aload_n 0, 1) := by decide +kernel
theorem dX3_copy_39 : decode cX3_copy 39 = .ok (.getfield 14, 3) := by decide +kernel
theorem dX3_copy_42 : decode cX3_copy 42 = .ok (.aload_n 0, 1) := by decide +kernel
theorem dX3_copy_43 : decode cX3_copy 43 = .ok (.getfield 14, 3) := by decide +kernel
theorem dX3_copy_46 : decode cX3_copy 46 = .ok (.invokevirtual 215, 3) := by decide +kernel
theorem dX3_copy_49 : decode cX3_copy 49 = .ok (.iconst 0, 1) := by decide +kernel
theorem dX3_copy_50 : decode cX3_copy 50 = .ok (.aload_n 0, 1) := by decide +kernel
theorem dX3_copy_51 : decode cX3_copy 51 = .ok (.getfield 14, 3) := by decide +kernel
theorem dX3_copy_54 : decode cX3_copy 54 = .ok (.iload_n 2, 1) := by decide +kernel
theorem dX3_copy_55 : decode cX3_copy 55 = .ok (.iload 5, 2) := by decide +kernel
theorem dX3_copy_57 : decode cX3_copy 57 = .ok (.iadd, 1) := by decide +kernel
theorem dX3_copy_58 : decode cX3_copy 58 = .ok (.iconst 0, 1) := by decide +kernel
theorem dX3_copy_59 : decode cX3_copy 59 = .ok (.invokevirtual 221, 3) := by decide +kernel
theorem dX3_copy_62 : decode cX3_copy 62 = .ok (.invokevirtual 218, 3) := by decide +kernel
theorem dX3_copy_65 : decode cX3_copy 65 = .ok (.iinc 5 1, 3) := by decide +kernel
theorem dX3_copy_68 : decode cX3_copy 68 = .ok (.goto (-36), 3) := by decide +kernel
theorem dX3_copy_71 : decode cX3_copy 71 = .ok (.aload_n 0, 1) := by decide +kernel
theorem dX3_copy_72 : decode cX3_copy 72 = .ok (.iload 4, 2) := by decide +kernel
theorem dX3_copy_74 : decode cX3_copy 74 = .ok (.iload_n 3, 1) := by decide +kernel
theorem dX3_copy_75 : decode cX3_copy 75 = .ok (.invokevirtual 142, 3) := by decide +kernel
theorem dX3_copy_78 : decode cX3_copy 78 = .ok (.return_, 1) := by decide +kernel
theorem dX3_put_0 : decode cX3_put 0 = .ok (.aload_n 0, 1) := by decide +kernel
theorem dX3_put_1 : decode cX3_put 1 = .ok (.getfield 70, 3) := by decide +kernel
theorem dX3_put_4 : decode cX3_put 4 = .ok (.getfield 228, 3) := by decide +kernel
theorem dX3_put_7 : decode cX3_put 7 = .ok (.aload_n 0, 1) := by decide +kernel
theorem dX3_put_8 : decode cX3_put 8 = .ok (.getfield 74, 3) := by decide +kernel
theorem dX3_put_11 : decode cX3_put 11 = .ok (.getfield 206, 3) := by decide +kernel
theorem dX3_put_14 : decode cX3_put 14 = .ok (.iload_n 2, 1) := by decide +kernel
theorem dX3_put_15 : decode cX3_put 15 = .ok (.iaload, 1) := by decide +kernel
theorem dX3_put_16 : decode cX3_put 16 = .ok (.iaload, 1) := by decide +kernel
theorem dX3_put_17 : decode cX3_put 17 = .ok (.iconst 1, 1) := by decide +kernel
theorem dX3_put_18 : decode cX3_put 18 = .ok (.if_icmp .ne 7, 3) := by decide +kernel
theorem dX3_put_25 : decode cX3_put 25 = .ok (.iconst 0, 1) := by decide +kernel
theorem dX3_put_26 : decode cX3_put 26 = .ok (.istore_n 3, 1) := by decide +kernel
theorem dX3_put_27 : decode cX3_put 27 = .ok (.iload_n 3, 1) := by decide +kernel
theorem dX3_put_28 : decode cX3_put 28 = .ok (.ifCond .eq 15, 3) := by decide +kernel
theorem dX3_put_43 : decode cX3_put 43 = .ok (.iload_n 1, 1) := by decide +kernel
theorem dX3_put_44 : decode cX3_put 44 = .ok (.istore 4, 2) := by decide +kernel
theorem dX3_put_46 : decode cX3_put 46 = .ok (.aload_n 0, 1) := by decide +kernel
theorem dX3_put_47 : decode cX3_put 47 = .ok (.getfield 14, 3) := by decide +kernel
theorem dX3_put_50 : decode cX3_put 50 = .ok (.iload 4, 2) := by decide +kernel
theorem dX3_put_52 : decode cX3_put 52 = .ok (.iconst 1, 1) := by decide +kernel
theorem dX3_put_53 : decode cX3_put 53 = .ok (.aload_n 0, 1) := by decide +kernel
theorem dX3_put_54 : decode cX3_put 54 = .ok (.getfield 20, 3) := by decide +kernel
theorem dX3_put_57 : decode cX3_put 57 = .ok (.aload_n 0, 1) := by decide +kernel
theorem dX3_put_58 : decode cX3_put 58 = .ok (.getfield 20, 3) := by decide +kernel
theorem dX3_put_61 : decode cX3_put 61 = .ok (.getfield 200, 3) := by decide +kernel
theorem dX3_put_64 : decode cX3_put 64 = .ok (.iconst 1, 1) := by decide +kernel
theorem dX3_put_65 : decode cX3_put 65 = .ok (.isub, 1) := by decide +kernel
theorem dX3_put_66 : decode cX3_put 66 = .ok (.iconst 1, 1) := by decide +kernel
theorem dX3_put_67 : decode cX3_put 67 = .ok (.invokevirtual 221, 3) := by decide +kernel
theorem dX3_put_70 : decode cX3_put 70 = .ok (.invokevirtual 218, 3) := by decide +kernel
theorem dX3_put_73 : decode cX3_put 73 = .ok (.aload_n 0, 1) := by decide +kernel
theorem dX3_put_74 : decode cX3_put 74 = .ok (.getfield 14, 3) := by decide +kernel
theorem dX3_put_77 : decode cX3_put 77 = .ok (.iload 4, 2) := by decide +kernel
theorem dX3_put_79 : decode cX3_put 79 = .ok (.iconst 0, 1) := by decide +kernel
theorem dX3_put_80 : decode cX3_put 80 = .ok (.aload_n 0, 1) := by decide +kernel
theorem dX3_put_81 : decode cX3_put 81 = .ok (.invokevirtual 189, 3) := by decide +kernel
theorem dX3_put_84 : decode cX3_put 84 = .ok (.invokevirtual 218, 3) := by decide +kernel
theorem dX3_put_87 : decode cX3_put 87 = .ok (.return_, 1) := by decide +kernel
theorem dX3_put_21 : decode cX3_put 21 = .ok (.iconst 1, 1) := by decide +kernel
theorem dX3_put_22 : decode cX3_put 22 = .ok (.goto 4, 3) := by decide +kernel
theorem dX3_put_31 : decode cX3_put 31 = .ok (.aload_n 0, 1) := by decide +kernel
theorem dX3_put_32 : decode cX3_put 32 = .ok (.getfield 14, 3) := by decide +kernel
theorem dX3_put_35 : decode cX3_put 35 = .ok (.iload_n 1, 1) := by decide +kernel
theorem dX3_put_36 : decode cX3_put 36 = .ok (.iconst 0, 1) := by decide +kernel
theorem dX3_put_37 : decode cX3_put 37 = .ok (.invokevirtual 221, 3) := by decide +kernel
theorem dX3_put_40 : decode cX3_put 40 = .ok (.goto 4, 3) := by decide +kernel
theorem dX3_stow_0 : decode cX3_stow 0 = .ok (.aload_n 0, 1) := by decide +kernel
theorem dX3_stow_1 : decode cX3_stow 1 = .ok (.invokevirtual 189, 3) := by decide +kernel
theorem dX3_stow_4 : decode cX3_stow 4 = .ok (.istore_n 3, 1) := by decide +kernel
theorem dX3_stow_5 : decode cX3_stow 5 = .ok (.aload_n 0, 1) := by decide +kernel
theorem dX3_stow_6 : decode cX3_stow 6 = .ok (.invokevirtual 189, 3) := by decide +kernel
theorem dX3_stow_9 : decode cX3_stow 9 = .ok (.istore 4, 2) := by decide +kernel
theorem dX3_stow_11 : decode cX3_stow 11 = .ok (.iload 4, 2) := by decide +kernel
theorem dX3_stow_13 : decode cX3_stow 13 = .ok (.ifCond .lt 17, 3) := by decide +kernel
theorem dX3_stow_30 : decode cX3_stow 30 = .ok (.aload_n 0, 1) := by decide +kernel
theorem dX3_stow_31 : decode cX3_stow 31 = .ok (.iconst 2, 1) := by decide +kernel
theorem dX3_stow_32 : decode cX3_stow 32 = .ok (.aload_n 0, 1) := by decide +kernel
theorem dX3_stow_33 : decode cX3_stow 33 = .ok (.getfield 74, 3) := by decide +kernel
theorem dX3_stow_36 : decode cX3_stow 36 = .ok (.getfield 206, 3) := by decide +kernel
theorem dX3_stow_39 : decode cX3_stow 39 = .ok (.iload_n 2, 1) := by decide +kernel
theorem dX3_stow_40 : decode cX3_stow 40 = .ok (.iaload, 1) := by decide +kernel
theorem dX3_stow_41 : decode cX3_stow 41 = .ok (.invokevirtual 120, 3) := by decide +kernel
theorem dX3_stow_44 : decode cX3_stow 44 = .ok (.goto 24, 3) := by decide +kernel
theorem dX3_stow_68 : decode cX3_stow 68 = .ok (.return_, 1) := by decide +kernel
theorem dX3_stow_16 : decode cX3_stow 16 = .ok (.iload 4, 2) := by decide +kernel
theorem dX3_stow_18 : decode cX3_stow 18 = .ok (.aload_n 0, 1) := by decide +kernel
theorem dX3_stow_19 : decode cX3_stow 19 = .ok (.getfield 14, 3) := by decide +kernel
theorem dX3_stow_22 : decode cX3_stow 22 = .ok (.iload_n 1, 1) := by decide +kernel
theorem dX3_stow_23 : decode cX3_stow 23 = .ok (.iconst 1, 1) := by decide +kernel
theorem dX3_stow_24 : decode cX3_stow 24 = .ok (.invokevirtual 221, 3) := by decide +kernel
theorem dX3_stow_27 : decode cX3_stow 27 = .ok (.if_icmp .lt 20, 3) := by decide +kernel
theorem dX3_stow_47 : decode cX3_stow 47 = .ok (.aload_n 0, 1) := by decide +kernel
theorem dX3_stow_48 : decode cX3_stow 48 = .ok (.getfield 14, 3) := by decide +kernel
theorem dX3_stow_51 : decode cX3_stow 51 = .ok (.aload_n 0, 1) := by decide +kernel
theorem dX3_stow_52 : decode cX3_stow 52 = .ok (.getfield 14, 3) := by decide +kernel
theorem dX3_stow_55 : decode cX3_stow 55 = .ok (.iload_n 1, 1) := by decide +kernel
theorem dX3_stow_56 : decode cX3_stow 56 = .ok (.iconst 0, 1) := by decide +kernel
theorem dX3_stow_57 : decode cX3_stow 57 = .ok (.invokevirtual 221, 3) := by decide +kernel
theorem dX3_stow_60 : decode cX3_stow 60 = .ok (.iload 4, 2) := by decide +kernel
theorem dX3_stow_62 : decode cX3_stow 62 = .ok (.iadd, 1) := by decide +kernel
theorem dX3_stow_63 : decode cX3_stow 63 = .ok (.iconst 0, 1) := by decide +kernel
theorem dX3_stow_64 : decode cX3_stow 64 = .ok (.iload_n 3, 1) := by decide +kernel
theorem dX3_stow_65 : decode cX3_stow 65 = .ok (.invokevirtual 218, 3) := by decide +kernel
theorem dX3_open_0 : decode cX3_open 0 = .ok (.aload_n 0, 1) := by decide +kernel
theorem dX3_open_1 : decode cX3_open 1 = .ok (.getfield 74, 3) := by decide +kernel
theorem dX3_open_4 : decode cX3_open 4 = .ok (.getfield 206, 3) := by decide +kernel
theorem dX3_open_7 : decode cX3_open 7 = .ok (.iload_n 1, 1) := by decide +kernel
theorem dX3_open_8 : decode cX3_open 8 = .ok (.iaload, 1) := by decide +kernel
theorem dX3_open_9 : decode cX3_open 9 = .ok (.istore_n 2, 1) := by decide +kernel
theorem dX3_open_10 : decode cX3_open 10 = .ok (.aload_n 0, 1) := by decide +kernel
theorem dX3_open_11 : decode cX3_open 11 = .ok (.getfield 29, 3) := by decide +kernel
theorem dX3_open_14 : decode cX3_open 14 = .ok (.invokevirtual 215, 3) := by decide +kernel
theorem dX3_open_17 : decode cX3_open 17 = .ok (.istore_n 3, 1) := by decide +kernel
theorem dX3_open_18 : decode cX3_open 18 = .ok (.aload_n 0, 1) := by decide +kernel
theorem dX3_open_19 : decode cX3_open 19 = .ok (.getfield 29, 3) := by decide +kernel
theorem dX3_open_22 : decode cX3_open 22 = .ok (.iload_n 3, 1) := by decide +kernel
theorem dX3_open_23 : decode cX3_open 23 = .ok (.iconst 0, 1) := by decide +kernel
theorem dX3_open_24 : decode cX3_open 24 = .ok (.aload_n 0, 1) := by decide +kernel
theorem dX3_open_25 : decode cX3_open 25 = .ok (.getfield 49, 3) := by decide +kernel
theorem dX3_open_28 : decode cX3_open 28 = .ok (.invokevirtual 218, 3) := by decide +kernel
theorem dX3_open_31 : decode cX3_open 31 = .ok (.aload_n 0, 1) := by decide +kernel
theorem dX3_open_32 : decode cX3_open 32 = .ok (.getfield 29, 3) := by decide +kernel
theorem dX3_open_35 : decode cX3_open 35 = .ok (.iload_n 3, 1) := by decide +kernel
theorem dX3_open_36 : decode cX3_open 36 = .ok (.iconst 1, 1) := by decide +kernel
theorem dX3_open_37 : decode cX3_open 37 = .ok (.aload_n 0, 1) := by decide +kernel
theorem dX3_open_38 : decode cX3_open 38 = .ok (.getfield 74, 3) := by decide +kernel
theorem dX3_open_41 : decode cX3_open 41 = .ok (.getfield 139, 3) := by decide +kernel
theorem dX3_open_44 : decode cX3_open 44 = .ok (.iload_n 1, 1) := by decide +kernel
theorem dX3_open_45 : decode cX3_open 45 = .ok (.iaload, 1) := by decide +kernel
theorem dX3_open_46 : decode cX3_open 46 = .ok (.invokevirtual 218, 3) := by decide +kernel
theorem dX3_open_49 : decode cX3_open 49 = .ok (.aload_n 0, 1) := by decide +kernel
theorem dX3_open_50 : decode cX3_open 50 = .ok (.getfield 29, 3) := by decide +kernel
theorem dX3_open_53 : decode cX3_open 53 = .ok (.iload_n 3, 1) := by decide +kernel
theorem dX3_open_54 : decode cX3_open 54 = .ok (.iconst 2, 1) := by decide +kernel
theorem dX3_open_55 : decode cX3_open 55 = .ok (.aload_n 0, 1) := by decide +kernel
theorem dX3_open_56 : decode cX3_open 56 = .ok (.getfield 26, 3) := by decide +kernel
theorem dX3_open_59 : decode cX3_open 59 = .ok (.getfield 200, 3) := by decide +kernel
theorem dX3_open_62 : decode cX3_open 62 = .ok (.invokevirtual 218, 3) := by decide +kernel
theorem dX3_open_65 : decode cX3_open 65 = .ok (.aload_n 0, 1) := by decide +kernel
theorem dX3_open_66 : decode cX3_open 66 = .ok (.getfield 29, 3) := by decide +kernel
theorem dX3_open_69 : decode cX3_open 69 = .ok (.iload_n 3, 1) := by decide +kernel
theorem dX3_open_70 : decode cX3_open 70 = .ok (.iconst 3, 1) := by decide +kernel
theorem dX3_open_71 : decode cX3_open 71 = .ok (.aload_n 0, 1) := by decide +kernel
theorem dX3_open_72 : decode cX3_open 72 = .ok (.getfield 20, 3) := by decide +kernel
theorem dX3_open_75 : decode cX3_open 75 = .ok (.getfield 200, 3) := by decide +kernel
theorem dX3_open_78 : decode cX3_open 78 = .ok (.invokevirtual 218, 3) := by decide +kernel
theorem dX3_open_81 : decode cX3_open 81 = .ok (.aload_n 0, 1) := by decide +kernel
theorem dX3_open_82 : decode cX3_open 82 = .ok (.getfield 29, 3) := by decide +kernel
theorem dX3_open_85 : decode cX3_open 85 = .ok (.iload_n 3, 1) := by decide +kernel
theorem dX3_open_86 : decode cX3_open 86 = .ok (.iconst 4, 1) := by decide +kernel
theorem dX3_open_87 : decode cX3_open 87 = .ok (.aload_n 0, 1) := by decide +kernel
theorem dX3_open_88 : decode cX3_open 88 = .ok (.getfield 74, 3) := by decide +kernel
theorem dX3_open_91 : decode cX3_open 91 = .ok (.getfield 240, 3) := by decide +kernel
theorem dX3_open_94 : decode cX3_open 94 = .ok (.iload_n 2, 1) := by decide +kernel
theorem dX3_open_95 : decode cX3_open 95 = .ok (.iaload, 1) := by decide +kernel
theorem dX3_open_96 : decode cX3_open 96 = .ok (.aload_n 0, 1) := by decide +kernel
theorem dX3_open_97 : decode cX3_open 97 = .ok (.getfield 74, 3) := by decide +kernel
theorem dX3_open_100 : decode cX3_open 100 = .ok (.getfield 242, 3) := by decide +kernel
theorem dX3_open_103 : decode cX3_open 103 = .ok (.iload_n 2, 1) := by decide +kernel
theorem dX3_open_104 : decode cX3_open 104 = .ok (.iaload, 1) := by decide +kernel
theorem dX3_open_105 : decode cX3_open 105 = .ok (.iadd, 1) := by decide +kernel
theorem dX3_open_106 : decode cX3_open 106 = .ok (.iconst 1, 1) := by decide +kernel
theorem dX3_open_107 : decode cX3_open 107 = .ok (.isub, 1) := by decide +kernel
theorem dX3_open_108 : decode cX3_open 108 = .ok (.invokevirtual 218, 3) := by decide +kernel
theorem dX3_open_111 : decode cX3_open 111 = .ok (.return_, 1) := by decide +kernel
theorem dX3_isLoopOf_0 : decode cX3_isLoopOf 0 = .ok (.aload_n 0, 1) := by decide +kernel
theorem dX3_isLoopOf_1 : decode cX3_isLoopOf 1 = .ok (.getfield 29, 3) := by decide +kernel
theorem dX3_isLoopOf_4 : decode cX3_isLoopOf 4 = .ok (.iload_n 1, 1) := by decide +kernel
theorem dX3_isLoopOf_5 : decode cX3_isLoopOf 5 = .ok (.iconst 0, 1) := by decide +kernel
theorem dX3_isLoopOf_6 : decode cX3_isLoopOf 6 = .ok (.invokevirtual 221, 3) := by decide +kernel
theorem dX3_isLoopOf_9 : decode cX3_isLoopOf 9 = .ok (.iload_n 2, 1) := by decide +kernel
theorem dX3_isLoopOf_10 : decode cX3_isLoopOf 10 = .ok (.if_icmp .ne 20, 3) := by decide +kernel
theorem dX3_isLoopOf_30 : decode cX3_isLoopOf 30 = .ok (.iconst 0, 1) := by decide +kernel
theorem dX3_isLoopOf_31 : decode cX3_isLoopOf 31 = .ok (.ireturn, 1) := by decide +kernel
theorem dX3_isLoopOf_13 : decode cX3_isLoopOf 13 = .ok (.aload_n 0, 1) := by decide +kernel
theorem dX3_isLoopOf_14 : decode cX3_isLoopOf 14 = .ok (.getfield 29, 3) := by decide +kernel
theorem dX3_isLoopOf_17 : decode cX3_isLoopOf 17 = .ok (.iload_n 1, 1) := by decide +kernel
theorem dX3_isLoopOf_18 : decode cX3_isLoopOf 18 = .ok (.iconst 1, 1) := by decide +kernel
theorem dX3_isLoopOf_19 : decode cX3_isLoopOf 19 = .ok (.invokevirtual 221, 3) := by decide +kernel
theorem dX3_isLoopOf_22 : decode cX3_isLoopOf 22 = .ok (.iload_n 3, 1) := by decide +kernel
theorem dX3_isLoopOf_23 : decode cX3_isLoopOf 23 = .ok (.if_icmp .ne 7, 3) := by decide +kernel
theorem dX3_isLoopOf_26 : decode cX3_isLoopOf 26 = .ok (.iconst 1, 1) := by decide +kernel
theorem dX3_isLoopOf_27 : decode cX3_isLoopOf 27 = .ok (.goto 4, 3) := by decide +kernel
theorem dX3_leave_0 : decode cX3_leave 0 = .ok (.aload_n 0, 1) := by decide +kernel
theorem dX3_leave_1 : decode cX3_leave 1 = .ok (.aload_n 0, 1) := by decide +kernel
theorem dX3_leave_2 : decode cX3_leave 2 = .ok (.getfield 74, 3) := by decide +kernel
theorem dX3_leave_5 : decode cX3_leave 5 = .ok (.getfield 139, 3) := by decide +kernel
theorem dX3_leave_8 : decode cX3_leave 8 = .ok (.iload_n 1, 1) := by decide +kernel
theorem dX3_leave_9 : decode cX3_leave 9 = .ok (.iaload, 1) := by decide +kernel
theorem dX3_leave_10 : decode cX3_leave 10 = .ok (.invokevirtual 180, 3) := by decide +kernel
theorem dX3_leave_13 : decode cX3_leave 13 = .ok (.istore_n 2, 1) := by decide +kernel
theorem dX3_leave_14 : decode cX3_leave 14 = .ok (.aload_n 0, 1) := by decide +kernel
theorem dX3_leave_15 : decode cX3_leave 15 = .ok (.getfield 29, 3) := by decide +kernel
theorem dX3_leave_18 : decode cX3_leave 18 = .ok (.getfield 200, 3) := by decide +kernel
theorem dX3_leave_21 : decode cX3_leave 21 = .ok (.iconst 1, 1) := by decide +kernel
theorem dX3_leave_22 : decode cX3_leave 22 = .ok (.isub, 1) := by decide +kernel
theorem dX3_leave_23 : decode cX3_leave 23 = .ok (.istore_n 3, 1) := by decide +kernel
theorem dX3_leave_24 : decode cX3_leave 24 = .ok (.iload_n 3, 1) := by decide +kernel
theorem dX3_leave_25 : decode cX3_leave 25 = .ok (.ifCond .lt 27, 3) := by decide +kernel
theorem dX3_leave_28 : decode cX3_leave 28 = .ok (.aload_n 0, 1) := by decide +kernel
theorem dX3_leave_29 : decode cX3_leave 29 = .ok (.iload_n 3, 1) := by decide +kernel
theorem dX3_leave_30 : decode cX3_leave 30 = .ok (.iload_n 2, 1) := by decide +kernel
theorem dX3_leave_31 : decode cX3_leave 31 = .ok (.aload_n 0, 1) := by decide +kernel
theorem dX3_leave_32 : decode cX3_leave 32 = .ok (.getfield 74, 3) := by decide +kernel
theorem dX3_leave_35 : decode cX3_leave 35 = .ok (.getfield 177, 3) := by decide +kernel
theorem dX3_leave_38 : decode cX3_leave 38 = .ok (.iload_n 1, 1) := by decide +kernel
theorem dX3_leave_39 : decode cX3_leave 39 = .ok (.iaload, 1) := by decide +kernel
theorem dX3_leave_40 : decode cX3_leave 40 = .ok (.invokevirtual 245, 3) := by decide +kernel
theorem dX3_leave_43 : decode cX3_leave 43 = .ok (.ifCond .ne 9, 3) := by decide +kernel
theorem dX3_leave_46 : decode cX3_leave 46 = .ok (.iinc 3 (-1), 3) := by decide +kernel
theorem dX3_leave_49 : decode cX3_leave 49 = .ok (.goto (-25), 3) := by decide +kernel
theorem dX3_leave_52 : decode cX3_leave 52 = .ok (.iload_n 3, 1) := by decide +kernel
theorem dX3_leave_53 : decode cX3_leave 53 = .ok (.ifCond .ge 18, 3) := by decide +kernel
theorem dX3_leave_71 : decode cX3_leave 71 = .ok (.aload_n 0, 1) := by decide +kernel
theorem dX3_leave_72 : decode cX3_leave 72 = .ok (.getfield 29, 3) := by decide +kernel
theorem dX3_leave_75 : decode cX3_leave 75 = .ok (.iload_n 3, 1) := by decide +kernel
theorem dX3_leave_76 : decode cX3_leave 76 = .ok (.iconst 2, 1) := by decide +kernel
theorem dX3_leave_77 : decode cX3_leave 77 = .ok (.invokevirtual 221, 3) := by decide +kernel
theorem dX3_leave_80 : decode cX3_leave 80 = .ok (.istore 4, 2) := by decide +kernel
theorem dX3_leave_82 : decode cX3_leave 82 = .ok (.aload_n 0, 1) := by decide +kernel
theorem dX3_leave_83 : decode cX3_leave 83 = .ok (.getfield 26, 3) := by decide +kernel
theorem dX3_leave_86 : decode cX3_leave 86 = .ok (.getfield 200, 3) := by decide +kernel
theorem dX3_leave_89 : decode cX3_leave 89 = .ok (.istore 5, 2) := by decide +kernel
theorem dX3_leave_91 : decode cX3_leave 91 = .ok (.iload 5, 2) := by decide +kernel
theorem dX3_leave_93 : decode cX3_leave 93 = .ok (.iload 4, 2) := by decide +kernel
theorem dX3_leave_95 : decode cX3_leave 95 = .ok (.if_icmp .le 13, 3) := by decide +kernel
theorem dX3_leave_98 : decode cX3_leave 98 = .ok (.aload_n 0, 1) := by decide +kernel
theorem dX3_leave_99 : decode cX3_leave 99 = .ok (.invokevirtual 168, 3) := by decide +kernel
theorem dX3_leave_102 : decode cX3_leave 102 = .ok (.iinc 5 (-1), 3) := by decide +kernel
theorem dX3_leave_105 : decode cX3_leave 105 = .ok (.goto (-14), 3) := by decide +kernel
theorem dX3_leave_108 : decode cX3_leave 108 = .ok (.aload_n 0, 1) := by decide +kernel
theorem dX3_leave_109 : decode cX3_leave 109 = .ok (.getfield 20, 3) := by decide +kernel
theorem dX3_leave_112 : decode cX3_leave 112 = .ok (.aload_n 0, 1) := by decide +kernel
theorem dX3_leave_113 : decode cX3_leave 113 = .ok (.getfield 29, 3) := by decide +kernel
theorem dX3_leave_116 : decode cX3_leave 116 = .ok (.iload_n 3, 1) := by decide +kernel
theorem dX3_leave_117 : decode cX3_leave 117 = .ok (.iconst 3, 1) := by decide +kernel
theorem dX3_leave_118 : decode cX3_leave 118 = .ok (.invokevirtual 221, 3) := by decide +kernel
theorem dX3_leave_121 : decode cX3_leave 121 = .ok (.invokevirtual 111, 3) := by decide +kernel
theorem dX3_leave_124 : decode cX3_leave 124 = .ok (.aload_n 0, 1) := by decide +kernel
theorem dX3_leave_125 : decode cX3_leave 125 = .ok (.getfield 29, 3) := by decide +kernel
theorem dX3_leave_128 : decode cX3_leave 128 = .ok (.iload_n 3, 1) := by decide +kernel
theorem dX3_leave_129 : decode cX3_leave 129 = .ok (.iconst 1, 1) := by decide +kernel
theorem dX3_leave_130 : decode cX3_leave 130 = .ok (.iadd, 1) := by decide +kernel
theorem dX3_leave_131 : decode cX3_leave 131 = .ok (.invokevirtual 111, 3) := by decide +kernel
theorem dX3_leave_134 : decode cX3_leave 134 = .ok (.aload_n 0, 1) := by decide +kernel
theorem dX3_leave_135 : decode cX3_leave 135 = .ok (.aload_n 0, 1) := by decide +kernel
theorem dX3_leave_136 : decode cX3_leave 136 = .ok (.getfield 29, 3) := by decide +kernel
theorem dX3_leave_139 : decode cX3_leave 139 = .ok (.iload_n 3, 1) := by decide +kernel
theorem dX3_leave_140 : decode cX3_leave 140 = .ok (.iconst 4, 1) := by decide +kernel
theorem dX3_leave_141 : decode cX3_leave 141 = .ok (.invokevirtual 221, 3) := by decide +kernel
theorem dX3_leave_144 : decode cX3_leave 144 = .ok (.putfield 46, 3) := by decide +kernel
theorem dX3_leave_147 : decode cX3_leave 147 = .ok (.return_, 1) := by decide +kernel
theorem dX3_leave_56 : decode cX3_leave 56 = .ok (.aload_n 0, 1) := by decide +kernel
theorem dX3_leave_57 : decode cX3_leave 57 = .ok (.iconst 5, 1) := by decide +kernel
theorem dX3_leave_58 : decode cX3_leave 58 = .ok (.aload_n 0, 1) := by decide +kernel
theorem dX3_leave_59 : decode cX3_leave 59 = .ok (.getfield 74, 3) := by decide +kernel
theorem dX3_leave_62 : decode cX3_leave 62 = .ok (.getfield 206, 3) := by decide +kernel
theorem dX3_leave_65 : decode cX3_leave 65 = .ok (.iload_n 1, 1) := by decide +kernel
theorem dX3_leave_66 : decode cX3_leave 66 = .ok (.iaload, 1) := by decide +kernel
theorem dX3_leave_67 : decode cX3_leave 67 = .ok (.invokevirtual 120, 3) := by decide +kernel
theorem dX3_leave_70 : decode cX3_leave 70 = .ok (.return_, 1) := by decide +kernel
theorem dX6_print_0 : decode cX6_print 0 = .ok (.aload_n 0, 1) := by decide +kernel
theorem dX6_print_1 : decode cX6_print 1 = .ok (.getfield 24, 3) := by decide +kernel
theorem dX6_print_4 : decode cX6_print 4 = .ok (.bipush 50, 2) := by decide +kernel
theorem dX6_print_6 : decode cX6_print 6 = .ok (.if_icmp .ge 36, 3) := by decide +kernel
theorem dX6_print_42 : decode cX6_print 42 = .ok (.aload_n 0, 1) := by decide +kernel
theorem dX6_print_43 : decode cX6_print 43 = .ok (.dup, 1) := by decide +kernel
theorem dX6_print_44 : decode cX6_print 44 = .ok (.getfield 24, 3) := by decide +kernel
theorem dX6_print_47 : decode cX6_print 47 = .ok (.iconst 1, 1) := by decide +kernel
theorem dX6_print_48 : decode cX6_print 48 = .ok (.iadd, 1) := by decide +kernel
theorem dX6_print_49 : decode cX6_print 49 = .ok (.putfield 24, 3) := by decide +kernel
theorem dX6_print_52 : decode cX6_print 52 = .ok (.aload_n 0, 1) := by decide +kernel
theorem dX6_print_53 : decode cX6_print 53 = .ok (.dup, 1) := by decide +kernel
theorem dX6_print_54 : decode cX6_print 54 = .ok (.getfield 42, 3) := by decide +kernel
theorem dX6_print_57 : decode cX6_print 57 = .ok (.iload_n 1, 1) := by decide +kernel
theorem dX6_print_58 : decode cX6_print 58 = .ok (.i2l, 1) := by decide +kernel
theorem dX6_print_59 : decode cX6_print 59 = .ok (.ladd, 1) := by decide +kernel
theorem dX6_print_60 : decode cX6_print 60 = .ok (.putfield 42, 3) := by decide +kernel
theorem dX6_print_63 : decode cX6_print 63 = .ok (.return_, 1) := by decide +kernel
theorem dX6_print_9 : decode cX6_print 9 = .ok (.aload_n 0, 1) := by decide +kernel
theorem dX6_print_10 : decode cX6_print 10 = .ok (.getfield 46, 3) := by decide +kernel
theorem dX6_print_13 : decode cX6_print 13 = .ok (.aload_n 0, 1) := by decide +kernel
theorem dX6_print_14 : decode cX6_print 14 = .ok (.getfield 24, 3) := by decide +kernel
theorem dX6_print_17 : decode cX6_print 17 = .ok (.iload_n 1, 1) := by decide +kernel
theorem dX6_print_18 : decode cX6_print 18 = .ok (.iastore, 1) := by decide +kernel
theorem dX6_print_19 : decode cX6_print 19 = .ok (.aload_n 0, 1) := by decide +kernel
theorem dX6_print_20 : decode cX6_print 20 = .ok (.getfield 50, 3) := by decide +kernel
theorem dX6_print_23 : decode cX6_print 23 = .ok (.aload_n 0, 1) := by decide +kernel
theorem dX6_print_24 : decode cX6_print 24 = .ok (.getfield 24, 3) := by decide +kernel
theorem dX6_print_27 : decode cX6_print 27 = .ok (.aload_n 0, 1) := by decide +kernel
theorem dX6_print_28 : decode cX6_print 28 = .ok (.getfield 21, 3) := by decide +kernel
theorem dX6_print_31 : decode cX6_print 31 = .ok (.iastore, 1) := by decide +kernel
theorem dX6_print_32 : decode cX6_print 32 = .ok (.aload_n 0, 1) := by decide +kernel
theorem dX6_print_33 : decode cX6_print 33 = .ok (.getfield 53, 3) := by decide +kernel
theorem dX6_print_36 : decode cX6_print 36 = .ok (.aload_n 0, 1) := by decide +kernel
theorem dX6_print_37 : decode cX6_print 37 = .ok (.getfield 24, 3) := by decide +kernel
theorem dX6_print_40 : decode cX6_print 40 = .ok (.iload_n 2, 1) := by decide +kernel
theorem dX6_print_41 : decode cX6_print 41 = .ok (.iastore, 1) := by decide +kernel
theorem dX3_perform_0 : decode cX3_perform 0 = .ok (.aload_n 0, 1) := by decide +kernel
theorem dX3_perform_1 : decode cX3_perform 1 = .ok (.getfield 74, 3) := by decide +kernel
theorem dX3_perform_4 : decode cX3_perform 4 = .ok (.getfield 139, 3) := by decide +kernel
theorem dX3_perform_7 : decode cX3_perform 7 = .ok (.iload_n 1, 1) := by decide +kernel
theorem dX3_perform_8 : decode cX3_perform 8 = .ok (.iaload, 1) := by decide +kernel
theorem dX3_perform_9 : decode cX3_perform 9 = .ok (.istore_n 3, 1) := by decide +kernel
theorem dX3_perform_10 : decode cX3_perform 10 = .ok (.iload_n 2, 1) := by decide +kernel
theorem dX3_perform_11 : decode cX3_perform 11 = .ok (.tableswitch 386 1 27 #[121, 130, 143, 386, 386, 386, 386, 386, 157, 165, 386, 178, 191, 205, 213, 220, 232, 244, 265, 278, 291, 311, 320, 328, 347, 355, 378], 121) := by decide +kernel
theorem dX3_perform_132 : decode cX3_perform 132 = .ok (.aload_n 0, 1) := by decide +kernel
theorem dX3_perform_133 : decode cX3_perform 133 = .ok (.iload_n 3, 1) := by decide +kernel
theorem dX3_perform_134 : decode cX3_perform 134 = .ok (.iconst 0, 1) := by decide +kernel
theorem dX3_perform_135 : decode cX3_perform 135 = .ok (.invokevirtual 142, 3) := by decide +kernel
theorem dX3_perform_138 : decode cX3_perform 138 = .ok (.goto 265, 3) := by decide +kernel
theorem dX3_perform_403 : decode cX3_perform 403 = .ok (.return_, 1) := by decide +kernel
theorem dX3_perform_141 : decode cX3_perform 141 = .ok (.aload_n 0, 1) := by decide +kernel
theorem dX3_perform_142 : decode cX3_perform 142 = .ok (.aload_n 0, 1) := by decide +kernel
theorem dX3_perform_143 : decode cX3_perform 143 = .ok (.iload_n 1, 1) := by decide +kernel
theorem dX3_perform_144 : decode cX3_perform 144 = .ok (.invokevirtual 145, 3) := by decide +kernel
theorem dX3_perform_147 : decode cX3_perform 147 = .ok (.iload_n 1, 1) := by decide +kernel
theorem dX3_perform_148 : decode cX3_perform 148 = .ok (.invokevirtual 149, 3) := by decide +kernel
theorem dX3_perform_151 : decode cX3_perform 151 = .ok (.goto 252, 3) := by decide +kernel
theorem dX3_perform_154 : decode cX3_perform 154 = .ok (.aload_n 0, 1) := by decide +kernel
theorem dX3_perform_155 : decode cX3_perform 155 = .ok (.aload_n 0, 1) := by decide +kernel
theorem dX3_perform_156 : decode cX3_perform 156 = .ok (.iload_n 1, 1) := by decide +kernel
theorem dX3_perform_157 : decode cX3_perform 157 = .ok (.invokevirtual 145, 3) := by decide +kernel
theorem dX3_perform_160 : decode cX3_perform 160 = .ok (.iload_n 1, 1) := by decide +kernel
theorem dX3_perform_161 : decode cX3_perform 161 = .ok (.iconst 0, 1) := by decide +kernel
theorem dX3_perform_162 : decode cX3_perform 162 = .ok (.invokevirtual 152, 3) := by decide +kernel
theorem dX3_perform_165 : decode cX3_perform 165 = .ok (.goto 238, 3) := by decide +kernel
theorem dX3_perform_397 : decode cX3_perform 397 = .ok (.aload_n 0, 1) := by decide +kernel
theorem dX3_perform_398 : decode cX3_perform 398 = .ok (.iload_n 1, 1) := by decide +kernel
theorem dX3_perform_399 : decode cX3_perform 399 = .ok (.iload_n 2, 1) := by decide +kernel
theorem dX3_perform_400 : decode cX3_perform 400 = .ok (.invokevirtual 212, 3) := by decide +kernel
theorem dX3_perform_168 : decode cX3_perform 168 = .ok (.aload_n 0, 1) := by decide +kernel
theorem dX3_perform_169 : decode cX3_perform 169 = .ok (.iload_n 1, 1) := by decide +kernel
theorem dX3_perform_170 : decode cX3_perform 170 = .ok (.invokevirtual 156, 3) := by decide +kernel
theorem dX3_perform_173 : decode cX3_perform 173 = .ok (.goto 230, 3) := by decide +kernel
theorem dX3_perform_176 : decode cX3_perform 176 = .ok (.aload_n 0, 1) := by decide +kernel
theorem dX3_perform_177 : decode cX3_perform 177 = .ok (.aload_n 0, 1) := by decide +kernel
theorem dX3_perform_178 : decode cX3_perform 178 = .ok (.iload_n 1, 1) := by decide +kernel
theorem dX3_perform_179 : decode cX3_perform 179 = .ok (.invokevirtual 145, 3) := by decide +kernel
theorem dX3_perform_182 : decode cX3_perform 182 = .ok (.iload_n 1, 1) := by decide +kernel
theorem dX3_perform_183 : decode cX3_perform 183 = .ok (.invokevirtual 159, 3) := by decide +kernel
theorem dX3_perform_186 : decode cX3_perform 186 = .ok (.goto 217, 3) := by decide +kernel
theorem dX3_perform_189 : decode cX3_perform 189 = .ok (.aload_n 0, 1) := by decide +kernel
theorem dX3_perform_190 : decode cX3_perform 190 = .ok (.aload_n 0, 1) := by decide +kernel
theorem dX3_perform_191 : decode cX3_perform 191 = .ok (.iload_n 1, 1) := by decide +kernel
theorem dX3_perform_192 : decode cX3_perform 192 = .ok (.invokevirtual 145, 3) := by decide +kernel
theorem dX3_perform_195 : decode cX3_perform 195 = .ok (.iload_n 1, 1) := by decide +kernel
theorem dX3_perform_196 : decode cX3_perform 196 = .ok (.invokevirtual 162, 3) := by decide +kernel
theorem dX3_perform_199 : decode cX3_perform 199 = .ok (.goto 204, 3) := by decide +kernel
theorem dX3_perform_202 : decode cX3_perform 202 = .ok (.aload_n 0, 1) := by decide +kernel
theorem dX3_perform_203 : decode cX3_perform 203 = .ok (.aload_n 0, 1) := by decide +kernel
theorem dX3_perform_204 : decode cX3_perform 204 = .ok (.iload_n 1, 1) := by decide +kernel
theorem dX3_perform_205 : decode cX3_perform 205 = .ok (.invokevirtual 145, 3) := by decide +kernel
theorem dX3_perform_208 : decode cX3_perform 208 = .ok (.iload_n 1, 1) := by decide +kernel
theorem dX3_perform_209 : decode cX3_perform 209 = .ok (.iconst 1, 1) := by decide +kernel
theorem dX3_perform_210 : decode cX3_perform 210 = .ok (.invokevirtual 152, 3) := by decide +kernel
theorem dX3_perform_213 : decode cX3_perform 213 = .ok (.goto 190, 3) := by decide +kernel
theorem dX3_perform_216 : decode cX3_perform 216 = .ok (.aload_n 0, 1) := by decide +kernel
theorem dX3_perform_217 : decode cX3_perform 217 = .ok (.iload_n 1, 1) := by decide +kernel
theorem dX3_perform_218 : decode cX3_perform 218 = .ok (.invokevirtual 165, 3) := by decide +kernel
theorem dX3_perform_221 : decode cX3_perform 221 = .ok (.goto 182, 3) := by decide +kernel
theorem dX3_perform_224 : decode cX3_perform 224 = .ok (.aload_n 0, 1) := by decide +kernel
theorem dX3_perform_225 : decode cX3_perform 225 = .ok (.invokevirtual 168, 3) := by decide +kernel
theorem dX3_perform_228 : decode cX3_perform 228 = .ok (.goto 175, 3) := by decide +kernel
theorem dX3_perform_231 : decode cX3_perform 231 = .ok (.aload_n 0, 1) := by decide +kernel
theorem dX3_perform_232 : decode cX3_perform 232 = .ok (.aload_n 0, 1) := by decide +kernel
theorem dX3_perform_233 : decode cX3_perform 233 = .ok (.iload_n 1, 1) := by decide +kernel
theorem dX3_perform_234 : decode cX3_perform 234 = .ok (.invokevirtual 145, 3) := by decide +kernel
theorem dX3_perform_237 : decode cX3_perform 237 = .ok (.invokevirtual 171, 3) := by decide +kernel
theorem dX3_perform_240 : decode cX3_perform 240 = .ok (.goto 163, 3) := by decide +kernel
theorem dX3_perform_243 : decode cX3_perform 243 = .ok (.aload_n 0, 1) := by decide +kernel
theorem dX3_perform_244 : decode cX3_perform 244 = .ok (.aload_n 0, 1) := by decide +kernel
theorem dX3_perform_245 : decode cX3_perform 245 = .ok (.iload_n 1, 1) := by decide +kernel
theorem dX3_perform_246 : decode cX3_perform 246 = .ok (.invokevirtual 145, 3) := by decide +kernel
theorem dX3_perform_249 : decode cX3_perform 249 = .ok (.invokevirtual 174, 3) := by decide +kernel
theorem dX3_perform_252 : decode cX3_perform 252 = .ok (.goto 151, 3) := by decide +kernel
theorem dX3_perform_255 : decode cX3_perform 255 = .ok (.aload_n 0, 1) := by decide +kernel
theorem dX3_perform_256 : decode cX3_perform 256 = .ok (.aload_n 0, 1) := by decide +kernel
theorem dX3_perform_257 : decode cX3_perform 257 = .ok (.getfield 74, 3) := by decide +kernel
theorem dX3_perform_260 : decode cX3_perform 260 = .ok (.getfield 177, 3) := by decide +kernel
theorem dX3_perform_263 : decode cX3_perform 263 = .ok (.iload_n 1, 1) := by decide +kernel
theorem dX3_perform_264 : decode cX3_perform 264 = .ok (.iaload, 1) := by decide +kernel
theorem dX3_perform_265 : decode cX3_perform 265 = .ok (.aload_n 0, 1) := by decide +kernel
theorem dX3_perform_266 : decode cX3_perform 266 = .ok (.iload_n 3, 1) := by decide +kernel
theorem dX3_perform_267 : decode cX3_perform 267 = .ok (.invokevirtual 180, 3) := by decide +kernel
theorem dX3_perform_270 : decode cX3_perform 270 = .ok (.invokevirtual 142, 3) := by decide +kernel
theorem dX3_perform_273 : decode cX3_perform 273 = .ok (.goto 130, 3) := by decide +kernel
theorem dX3_perform_276 : decode cX3_perform 276 = .ok (.aload_n 0, 1) := by decide +kernel
theorem dX3_perform_277 : decode cX3_perform 277 = .ok (.aload_n 0, 1) := by decide +kernel
theorem dX3_perform_278 : decode cX3_perform 278 = .ok (.iload_n 1, 1) := by decide +kernel
theorem dX3_perform_279 : decode cX3_perform 279 = .ok (.invokevirtual 145, 3) := by decide +kernel
theorem dX3_perform_282 : decode cX3_perform 282 = .ok (.iload_n 1, 1) := by decide +kernel
theorem dX3_perform_283 : decode cX3_perform 283 = .ok (.invokevirtual 183, 3) := by decide +kernel
theorem dX3_perform_286 : decode cX3_perform 286 = .ok (.goto 117, 3) := by decide +kernel
theorem dX3_perform_289 : decode cX3_perform 289 = .ok (.aload_n 0, 1) := by decide +kernel
theorem dX3_perform_290 : decode cX3_perform 290 = .ok (.aload_n 0, 1) := by decide +kernel
theorem dX3_perform_291 : decode cX3_perform 291 = .ok (.iload_n 1, 1) := by decide +kernel
theorem dX3_perform_292 : decode cX3_perform 292 = .ok (.invokevirtual 145, 3) := by decide +kernel
theorem dX3_perform_295 : decode cX3_perform 295 = .ok (.iload_n 1, 1) := by decide +kernel
theorem dX3_perform_296 : decode cX3_perform 296 = .ok (.invokevirtual 186, 3) := by decide +kernel
theorem dX3_perform_299 : decode cX3_perform 299 = .ok (.goto 104, 3) := by decide +kernel
theorem dX3_perform_302 : decode cX3_perform 302 = .ok (.aload_n 0, 1) := by decide +kernel
theorem dX3_perform_303 : decode cX3_perform 303 = .ok (.aload_n 0, 1) := by decide +kernel
theorem dX3_perform_304 : decode cX3_perform 304 = .ok (.invokevirtual 189, 3) := by decide +kernel
theorem dX3_perform_307 : decode cX3_perform 307 = .ok (.ifCond .ne 7, 3) := by decide +kernel
theorem dX3_perform_314 : decode cX3_perform 314 = .ok (.iconst 0, 1) := by decide +kernel
theorem dX3_perform_315 : decode cX3_perform 315 = .ok (.iload_n 3, 1) := by decide +kernel
theorem dX3_perform_316 : decode cX3_perform 316 = .ok (.invokevirtual 193, 3) := by decide +kernel
theorem dX3_perform_319 : decode cX3_perform 319 = .ok (.goto 84, 3) := by decide +kernel
theorem dX3_perform_310 : decode cX3_perform 310 = .ok (.iconst 1, 1) := by decide +kernel
theorem dX3_perform_311 : decode cX3_perform 311 = .ok (.goto 4, 3) := by decide +kernel
theorem dX3_perform_322 : decode cX3_perform 322 = .ok (.aload_n 0, 1) := by decide +kernel
theorem dX3_perform_323 : decode cX3_perform 323 = .ok (.iconst 1, 1) := by decide +kernel
theorem dX3_perform_324 : decode cX3_perform 324 = .ok (.iload_n 3, 1) := by decide +kernel
theorem dX3_perform_325 : decode cX3_perform 325 = .ok (.invokevirtual 193, 3) := by decide +kernel
theorem dX3_perform_328 : decode cX3_perform 328 = .ok (.goto 75, 3) := by decide +kernel
theorem dX3_perform_331 : decode cX3_perform 331 = .ok (.aload_n 0, 1) := by decide +kernel
theorem dX3_perform_332 : decode cX3_perform 332 = .ok (.iload_n 1, 1) := by decide +kernel
theorem dX3_perform_333 : decode cX3_perform 333 = .ok (.invokevirtual 197, 3) := by decide +kernel
theorem dX3_perform_336 : decode cX3_perform 336 = .ok (.goto 67, 3) := by decide +kernel
theorem dX3_perform_339 : decode cX3_perform 339 = .ok (.aload_n 0, 1) := by decide +kernel
theorem dX3_perform_340 : decode cX3_perform 340 = .ok (.getfield 29, 3) := by decide +kernel
theorem dX3_perform_343 : decode cX3_perform 343 = .ok (.aload_n 0, 1) := by decide +kernel
theorem dX3_perform_344 : decode cX3_perform 344 = .ok (.getfield 29, 3) := by decide +kernel
theorem dX3_perform_347 : decode cX3_perform 347 = .ok (.getfield 200, 3) := by decide +kernel
theorem dX3_perform_350 : decode cX3_perform 350 = .ok (.iconst 1, 1) := by decide +kernel
theorem dX3_perform_351 : decode cX3_perform 351 = .ok (.isub, 1) := by decide +kernel
theorem dX3_perform_352 : decode cX3_perform 352 = .ok (.invokevirtual 111, 3) := by decide +kernel
theorem dX3_perform_355 : decode cX3_perform 355 = .ok (.goto 48, 3) := by decide +kernel
theorem dX3_perform_358 : decode cX3_perform 358 = .ok (.aload_n 0, 1) := by decide +kernel
theorem dX3_perform_359 : decode cX3_perform 359 = .ok (.iload_n 1, 1) := by decide +kernel
theorem dX3_perform_360 : decode cX3_perform 360 = .ok (.invokevirtual 203, 3) := by decide +kernel
theorem dX3_perform_363 : decode cX3_perform 363 = .ok (.goto 40, 3) := by decide +kernel
theorem dX3_perform_366 : decode cX3_perform 366 = .ok (.aload_n 0, 1) := by decide +kernel
theorem dX3_perform_367 : decode cX3_perform 367 = .ok (.getfield 35, 3) := by decide +kernel
theorem dX3_perform_370 : decode cX3_perform 370 = .ok (.aload_n 0, 1) := by decide +kernel
theorem dX3_perform_371 : decode cX3_perform 371 = .ok (.invokevirtual 189, 3) := by decide +kernel
theorem dX3_perform_374 : decode cX3_perform 374 = .ok (.aload_n 0, 1) := by decide +kernel
theorem dX3_perform_375 : decode cX3_perform 375 = .ok (.getfield 74, 3) := by decide +kernel
theorem dX3_perform_378 : decode cX3_perform 378 = .ok (.getfield 206, 3) := by decide +kernel
theorem dX3_perform_381 : decode cX3_perform 381 = .ok (.iload_n 1, 1) := by decide +kernel
theorem dX3_perform_382 : decode cX3_perform 382 = .ok (.iaload, 1) := by decide +kernel
theorem dX3_perform_383 : decode cX3_perform 383 = .ok (.invokevirtual 209, 3) := by decide +kernel
theorem dX3_perform_386 : decode cX3_perform 386 = .ok (.goto 17, 3) := by decide +kernel
theorem dX3_perform_389 : decode cX3_perform 389 = .ok (.aload_n 0, 1) := by decide +kernel
theorem dX3_perform_390 : decode cX3_perform 390 = .ok (.invokevirtual 189, 3) := by decide +kernel
theorem dX3_perform_393 : decode cX3_perform 393 = .ok (.pop, 1) := by decide +kernel
theorem dX3_perform_394 : decode cX3_perform 394 = .ok (.goto 9, 3) := by decide +kernel
theorem dX3_execute_0 : decode cX3_execute 0 = .ok (.aload_n 0, 1) := by decide +kernel
theorem dX3_execute_1 : decode cX3_execute 1 = .ok (.getfield 74, 3) := by decide +kernel
theorem dX3_execute_4 : decode cX3_execute 4 = .ok (.iconst 0, 1) := by decide +kernel
theorem dX3_execute_5 : decode cX3_execute 5 = .ok (.invokevirtual 78, 3) := by decide +kernel
theorem dX3_execute_8 : decode cX3_execute 8 = .ok (.aload_n 0, 1) := by decide +kernel
theorem dX3_execute_9 : decode cX3_execute 9 = .ok (.invokevirtual 83, 3) := by decide +kernel
theorem dX3_execute_12 : decode cX3_execute 12 = .ok (.aload_n 0, 1) := by decide +kernel
theorem dX3_execute_13 : decode cX3_execute 13 = .ok (.iload_n 1, 1) := by decide +kernel
theorem dX3_execute_14 : decode cX3_execute 14 = .ok (.putfield 39, 3) := by decide +kernel
theorem dX3_execute_17 : decode cX3_execute 17 = .ok (.aload_n 0, 1) := by decide +kernel
theorem dX3_execute_18 : decode cX3_execute 18 = .ok (.iload_n 3, 1) := by decide +kernel
theorem dX3_execute_19 : decode cX3_execute 19 = .ok (.putfield 43, 3) := by decide +kernel
theorem dX3_execute_22 : decode cX3_execute 22 = .ok (.aload_n 0, 1) := by decide +kernel
theorem dX3_execute_23 : decode cX3_execute 23 = .ok (.aload 4, 2) := by decide +kernel
theorem dX3_execute_25 : decode cX3_execute 25 = .ok (.putfield 35, 3) := by decide +kernel
theorem dX3_execute_28 : decode cX3_execute 28 = .ok (.aload_n 0, 1) := by decide +kernel
theorem dX3_execute_29 : decode cX3_execute 29 = .ok (.getfield 35, 3) := by decide +kernel
theorem dX3_execute_32 : decode cX3_execute 32 = .ok (.invokevirtual 86, 3) := by decide +kernel
theorem dX3_execute_35 : decode cX3_execute 35 = .ok (.aload_n 0, 1) := by decide +kernel
theorem dX3_execute_36 : decode cX3_execute 36 = .ok (.iconst (-1), 1) := by decide +kernel
theorem dX3_execute_37 : decode cX3_execute 37 = .ok (.aload_n 0, 1) := by decide +kernel
theorem dX3_execute_38 : decode cX3_execute 38 = .ok (.getfield 52, 3) := by decide +kernel
theorem dX3_execute_41 : decode cX3_execute 41 = .ok (.invokevirtual 89, 3) := by decide +kernel
theorem dX3_execute_44 : decode cX3_execute 44 = .ok (.aload_n 0, 1) := by decide +kernel
theorem dX3_execute_45 : decode cX3_execute 45 = .ok (.iconst 0, 1) := by decide +kernel
theorem dX3_execute_46 : decode cX3_execute 46 = .ok (.iconst (-1), 1) := by decide +kernel
theorem dX3_execute_47 : decode cX3_execute 47 = .ok (.invokevirtual 93, 3) := by decide +kernel
theorem dX3_execute_50 : decode cX3_execute 50 = .ok (.iconst 0, 1) := by decide +kernel
theorem dX3_execute_51 : decode cX3_execute 51 = .ok (.istore 5, 2) := by decide +kernel
theorem dX3_execute_53 : decode cX3_execute 53 = .ok (.iload 5, 2) := by decide +kernel
theorem dX3_execute_55 : decode cX3_execute 55 = .ok (.ldc 96, 2) := by decide +kernel
theorem dX3_execute_57 : decode cX3_execute 57 = .ok (.if_icmp .ge 81, 3) := by decide +kernel
theorem dX3_execute_60 : decode cX3_execute 60 = .ok (.aload_n 0, 1) := by decide +kernel
theorem dX3_execute_61 : decode cX3_execute 61 = .ok (.getfield 58, 3) := by decide +kernel
theorem dX3_execute_64 : decode cX3_execute 64 = .ok (.ifCond .ne 74, 3) := by decide +kernel
theorem dX3_execute_67 : decode cX3_execute 67 = .ok (.aload_n 0, 1) := by decide +kernel
theorem dX3_execute_68 : decode cX3_execute 68 = .ok (.getfield 46, 3) := by decide +kernel
theorem dX3_execute_71 : decode cX3_execute 71 = .ok (.istore 6, 2) := by decide +kernel
theorem dX3_execute_73 : decode cX3_execute 73 = .ok (.iload 6, 2) := by decide +kernel
theorem dX3_execute_75 : decode cX3_execute 75 = .ok (.ifCond .lt 15, 3) := by decide +kernel
theorem dX3_execute_90 : decode cX3_execute 90 = .ok (.aload_n 0, 1) := by decide +kernel
theorem dX3_execute_91 : decode cX3_execute 91 = .ok (.iconst 1, 1) := by decide +kernel
theorem dX3_execute_92 : decode cX3_execute 92 = .ok (.putfield 58, 3) := by decide +kernel
theorem dX3_execute_95 : decode cX3_execute 95 = .ok (.goto 37, 3) := by decide +kernel
theorem dX3_execute_132 : decode cX3_execute 132 = .ok (.iinc 5 1, 3) := by decide +kernel
theorem dX3_execute_135 : decode cX3_execute 135 = .ok (.goto (-82), 3) := by decide +kernel
theorem dX3_execute_78 : decode cX3_execute 78 = .ok (.iload 6, 2) := by decide +kernel
theorem dX3_execute_80 : decode cX3_execute 80 = .ok (.aload_n 0, 1) := by decide +kernel
theorem dX3_execute_81 : decode cX3_execute 81 = .ok (.getfield 74, 3) := by decide +kernel
theorem dX3_execute_84 : decode cX3_execute 84 = .ok (.getfield 97, 3) := by decide +kernel
theorem dX3_execute_87 : decode cX3_execute 87 = .ok (.if_icmp .lt 11, 3) := by decide +kernel
theorem dX3_execute_98 : decode cX3_execute 98 = .ok (.aload_n 0, 1) := by decide +kernel
theorem dX3_execute_99 : decode cX3_execute 99 = .ok (.iload 6, 2) := by decide +kernel
theorem dX3_execute_101 : decode cX3_execute 101 = .ok (.iload_n 2, 1) := by decide +kernel
theorem dX3_execute_102 : decode cX3_execute 102 = .ok (.invokevirtual 100, 3) := by decide +kernel
theorem dX3_execute_105 : decode cX3_execute 105 = .ok (.ifCond .eq 27, 3) := by decide +kernel
theorem dX3_execute_108 : decode cX3_execute 108 = .ok (.aload_n 0, 1) := by decide +kernel
theorem dX3_execute_109 : decode cX3_execute 109 = .ok (.iload 6, 2) := by decide +kernel
theorem dX3_execute_111 : decode cX3_execute 111 = .ok (.iconst 1, 1) := by decide +kernel
theorem dX3_execute_112 : decode cX3_execute 112 = .ok (.iadd, 1) := by decide +kernel
theorem dX3_execute_113 : decode cX3_execute 113 = .ok (.putfield 46, 3) := by decide +kernel
theorem dX3_execute_116 : decode cX3_execute 116 = .ok (.aload_n 0, 1) := by decide +kernel
theorem dX3_execute_117 : decode cX3_execute 117 = .ok (.iload 6, 2) := by decide +kernel
theorem dX3_execute_119 : decode cX3_execute 119 = .ok (.aload_n 0, 1) := by decide +kernel
theorem dX3_execute_120 : decode cX3_execute 120 = .ok (.getfield 74, 3) := by decide +kernel
theorem dX3_execute_123 : decode cX3_execute 123 = .ok (.getfield 104, 3) := by decide +kernel
theorem dX3_execute_126 : decode cX3_execute 126 = .ok (.iload 6, 2) := by decide +kernel
theorem dX3_execute_128 : decode cX3_execute 128 = .ok (.iaload, 1) := by decide +kernel
theorem dX3_execute_129 : decode cX3_execute 129 = .ok (.invokevirtual 108, 3) := by decide +kernel
theorem dX3_execute_138 : decode cX3_execute 138 = .ok (.return_, 1) := by decide +kernel
theorem dX8_digest_0 : decode cX8_digest 0 = .ok (.aload_n 0, 1) := by decide +kernel
theorem dX8_digest_1 : decode cX8_digest 1 = .ok (.invokevirtual 146, 3) := by decide +kernel
theorem dX8_digest_4 : decode cX8_digest 4 = .ok (.ldc2_w 307, 3) := by decide +kernel
theorem dX8_digest_7 : decode cX8_digest 7 = .ok (.lstore_n 1, 1) := by decide +kernel
theorem dX8_digest_8 : decode cX8_digest 8 = .ok (.iconst 0, 1) := by decide +kernel
theorem dX8_digest_9 : decode cX8_digest 9 = .ok (.istore_n 3, 1) := by decide +kernel
theorem dX8_digest_10 : decode cX8_digest 10 = .ok (.iload_n 3, 1) := by decide +kernel
theorem dX8_digest_11 : decode cX8_digest 11 = .ok (.bipush 10, 2) := by decide +kernel
theorem dX8_digest_13 : decode cX8_digest 13 = .ok (.if_icmp .gt 22, 3) := by decide +kernel
theorem dX8_digest_16 : decode cX8_digest 16 = .ok (.lload_n 1, 1) := by decide +kernel
theorem dX8_digest_17 : decode cX8_digest 17 = .ok (.ldc2_w 309, 3) := by decide +kernel
theorem dX8_digest_20 : decode cX8_digest 20 = .ok (.lmul, 1) := by decide +kernel
theorem dX8_digest_21 : decode cX8_digest 21 = .ok (.aload_n 0, 1) := by decide +kernel
theorem dX8_digest_22 : decode cX8_digest 22 = .ok (.iload_n 3, 1) := by decide +kernel
theorem dX8_digest_23 : decode cX8_digest 23 = .ok (.invokevirtual 311, 3) := by decide +kernel
theorem dX8_digest_26 : decode cX8_digest 26 = .ok (.i2l, 1) := by decide +kernel
theorem dX8_digest_27 : decode cX8_digest 27 = .ok (.ladd, 1) := by decide +kernel
theorem dX8_digest_28 : decode cX8_digest 28 = .ok (.lstore_n 1, 1) := by decide +kernel
theorem dX8_digest_29 : decode cX8_digest 29 = .ok (.iinc 3 1, 3) := by decide +kernel
theorem dX8_digest_32 : decode cX8_digest 32 = .ok (.goto (-22), 3) := by decide +kernel
theorem dX8_digest_35 : decode cX8_digest 35 = .ok (.iconst 0, 1) := by decide +kernel
theorem dX8_digest_36 : decode cX8_digest 36 = .ok (.istore_n 3, 1) := by decide +kernel
theorem dX8_digest_37 : decode cX8_digest 37 = .ok (.iload_n 3, 1) := by decide +kernel
theorem dX8_digest_38 : decode cX8_digest 38 = .ok (.aload_n 0, 1) := by decide +kernel
theorem dX8_digest_39 : decode cX8_digest 39 = .ok (.getfield 12, 3) := by decide +kernel
theorem dX8_digest_42 : decode cX8_digest 42 = .ok (.getfield 99, 3) := by decide +kernel
theorem dX8_digest_45 : decode cX8_digest 45 = .ok (.if_icmp .ge 117, 3) := by decide +kernel
theorem dX8_digest_48 : decode cX8_digest 48 = .ok (.iconst 0, 1) := by decide +kernel
theorem dX8_digest_49 : decode cX8_digest 49 = .ok (.istore 4, 2) := by decide +kernel
theorem dX8_digest_51 : decode cX8_digest 51 = .ok (.iload 4, 2) := by decide +kernel
theorem dX8_digest_53 : decode cX8_digest 53 = .ok (.bipush 7, 2) := by decide +kernel
theorem dX8_digest_55 : decode cX8_digest 55 = .ok (.if_icmp .gt 24, 3) := by decide +kernel
theorem dX8_digest_58 : decode cX8_digest 58 = .ok (.lload_n 1, 1) := by decide +kernel
theorem dX8_digest_59 : decode cX8_digest 59 = .ok (.ldc2_w 309, 3) := by decide +kernel
theorem dX8_digest_62 : decode cX8_digest 62 = .ok (.lmul, 1) := by decide +kernel
theorem dX8_digest_63 : decode cX8_digest 63 = .ok (.aload_n 0, 1) := by decide +kernel
theorem dX8_digest_64 : decode cX8_digest 64 = .ok (.iload_n 3, 1) := by decide +kernel
theorem dX8_digest_65 : decode cX8_digest 65 = .ok (.iload 4, 2) := by decide +kernel
theorem dX8_digest_67 : decode cX8_digest 67 = .ok (.invokevirtual 314, 3) := by decide +kernel
theorem dX8_digest_70 : decode cX8_digest 70 = .ok (.i2l, 1) := by decide +kernel
theorem dX8_digest_71 : decode cX8_digest 71 = .ok (.ladd, 1) := by decide +kernel
theorem dX8_digest_72 : decode cX8_digest 72 = .ok (.lstore_n 1, 1) := by decide +kernel
theorem dX8_digest_73 : decode cX8_digest 73 = .ok (.iinc 4 1, 3) := by decide +kernel
theorem dX8_digest_76 : decode cX8_digest 76 = .ok (.goto (-25), 3) := by decide +kernel
theorem dX8_digest_79 : decode cX8_digest 79 = .ok (.iconst 0, 1) := by decide +kernel
theorem dX8_digest_80 : decode cX8_digest 80 = .ok (.istore 4, 2) := by decide +kernel
theorem dX8_digest_82 : decode cX8_digest 82 = .ok (.iload 4, 2) := by decide +kernel
theorem dX8_digest_84 : decode cX8_digest 84 = .ok (.bipush 7, 2) := by decide +kernel
theorem dX8_digest_86 : decode cX8_digest 86 = .ok (.if_icmp .gt 24, 3) := by decide +kernel
theorem dX8_digest_89 : decode cX8_digest 89 = .ok (.lload_n 1, 1) := by decide +kernel
theorem dX8_digest_90 : decode cX8_digest 90 = .ok (.ldc2_w 309, 3) := by decide +kernel
theorem dX8_digest_93 : decode cX8_digest 93 = .ok (.lmul, 1) := by decide +kernel
theorem dX8_digest_94 : decode cX8_digest 94 = .ok (.aload_n 0, 1) := by decide +kernel
theorem dX8_digest_95 : decode cX8_digest 95 = .ok (.iload_n 3, 1) := by decide +kernel
theorem dX8_digest_96 : decode cX8_digest 96 = .ok (.iload 4, 2) := by decide +kernel
theorem dX8_digest_98 : decode cX8_digest 98 = .ok (.invokevirtual 317, 3) := by decide +kernel
theorem dX8_digest_101 : decode cX8_digest 101 = .ok (.i2l, 1) := by decide +kernel
theorem dX8_digest_102 : decode cX8_digest 102 = .ok (.ladd, 1) := by decide +kernel
theorem dX8_digest_103 : decode cX8_digest 103 = .ok (.lstore_n 1, 1) := by decide +kernel
theorem dX8_digest_104 : decode cX8_digest 104 = .ok (.iinc 4 1, 3) := by decide +kernel
theorem dX8_digest_107 : decode cX8_digest 107 = .ok (.goto (-25), 3) := by decide +kernel
theorem dX8_digest_110 : decode cX8_digest 110 = .ok (.aload_n 0, 1) := by decide +kernel
theorem dX8_digest_111 : decode cX8_digest 111 = .ok (.iload_n 3, 1) := by decide +kernel
theorem dX8_digest_112 : decode cX8_digest 112 = .ok (.invokevirtual 171, 3) := by decide +kernel
theorem dX8_digest_115 : decode cX8_digest 115 = .ok (.istore 4, 2) := by decide +kernel
theorem dX8_digest_117 : decode cX8_digest 117 = .ok (.iconst 0, 1) := by decide +kernel
theorem dX8_digest_118 : decode cX8_digest 118 = .ok (.istore 5, 2) := by decide +kernel
theorem dX8_digest_120 : decode cX8_digest 120 = .ok (.iload 5, 2) := by decide +kernel
theorem dX8_digest_122 : decode cX8_digest 122 = .ok (.iload 4, 2) := by decide +kernel
theorem dX8_digest_124 : decode cX8_digest 124 = .ok (.iconst 4, 1) := by decide +kernel
theorem dX8_digest_125 : decode cX8_digest 125 = .ok (.imul, 1) := by decide +kernel
theorem dX8_digest_126 : decode cX8_digest 126 = .ok (.if_icmp .ge 30, 3) := by decide +kernel
theorem dX8_digest_129 : decode cX8_digest 129 = .ok (.lload_n 1, 1) := by decide +kernel
theorem dX8_digest_130 : decode cX8_digest 130 = .ok (.ldc2_w 309, 3) := by decide +kernel
theorem dX8_digest_133 : decode cX8_digest 133 = .ok (.lmul, 1) := by decide +kernel
theorem dX8_digest_134 : decode cX8_digest 134 = .ok (.aload_n 0, 1) := by decide +kernel
theorem dX8_digest_135 : decode cX8_digest 135 = .ok (.iload_n 3, 1) := by decide +kernel
theorem dX8_digest_136 : decode cX8_digest 136 = .ok (.iload 5, 2) := by decide +kernel
theorem dX8_digest_138 : decode cX8_digest 138 = .ok (.iconst 4, 1) := by decide +kernel
theorem dX8_digest_139 : decode cX8_digest 139 = .ok (.idiv, 1) := by decide +kernel
theorem dX8_digest_140 : decode cX8_digest 140 = .ok (.iload 5, 2) := by decide +kernel
theorem dX8_digest_142 : decode cX8_digest 142 = .ok (.iconst 4, 1) := by decide +kernel
theorem dX8_digest_143 : decode cX8_digest 143 = .ok (.irem, 1) := by decide +kernel
theorem dX8_digest_144 : decode cX8_digest 144 = .ok (.invokevirtual 320, 3) := by decide +kernel
theorem dX8_digest_147 : decode cX8_digest 147 = .ok (.i2l, 1) := by decide +kernel
theorem dX8_digest_148 : decode cX8_digest 148 = .ok (.ladd, 1) := by decide +kernel
theorem dX8_digest_149 : decode cX8_digest 149 = .ok (.lstore_n 1, 1) := by decide +kernel
theorem dX8_digest_150 : decode cX8_digest 150 = .ok (.iinc 5 1, 3) := by decide +kernel
theorem dX8_digest_153 : decode cX8_digest 153 = .ok (.goto (-33), 3) := by decide +kernel
theorem dX8_digest_156 : decode cX8_digest 156 = .ok (.iinc 3 1, 3) := by decide +kernel
theorem dX8_digest_159 : decode cX8_digest 159 = .ok (.goto (-122), 3) := by decide +kernel
theorem dX8_digest_162 : decode cX8_digest 162 = .ok (.iconst 0, 1) := by decide +kernel
theorem dX8_digest_163 : decode cX8_digest 163 = .ok (.istore_n 3, 1) := by decide +kernel
theorem dX8_digest_164 : decode cX8_digest 164 = .ok (.iload_n 3, 1) := by decide +kernel
theorem dX8_digest_165 : decode cX8_digest 165 = .ok (.aload_n 0, 1) := by decide +kernel
theorem dX8_digest_166 : decode cX8_digest 166 = .ok (.getfield 19, 3) := by decide +kernel
theorem dX8_digest_169 : decode cX8_digest 169 = .ok (.getfield 179, 3) := by decide +kernel
theorem dX8_digest_172 : decode cX8_digest 172 = .ok (.iconst 4, 1) := by decide +kernel
theorem dX8_digest_173 : decode cX8_digest 173 = .ok (.imul, 1) := by decide +kernel
theorem dX8_digest_174 : decode cX8_digest 174 = .ok (.if_icmp .ge 29, 3) := by decide +kernel
theorem dX8_digest_177 : decode cX8_digest 177 = .ok (.lload_n 1, 1) := by decide +kernel
theorem dX8_digest_178 : decode cX8_digest 178 = .ok (.ldc2_w 309, 3) := by decide +kernel
theorem dX8_digest_181 : decode cX8_digest 181 = .ok (.lmul, 1) := by decide +kernel
theorem dX8_digest_182 : decode cX8_digest 182 = .ok (.aload_n 0, 1) := by decide +kernel
theorem dX8_digest_183 : decode cX8_digest 183 = .ok (.iload_n 3, 1) := by decide +kernel
theorem dX8_digest_184 : decode cX8_digest 184 = .ok (.iconst 4, 1) := by decide +kernel
theorem dX8_digest_185 : decode cX8_digest 185 = .ok (.idiv, 1) := by decide +kernel
theorem dX8_digest_186 : decode cX8_digest 186 = .ok (.iconst 4, 1) := by decide +kernel
theorem dX8_digest_187 : decode cX8_digest 187 = .ok (.iload_n 3, 1) := by decide +kernel
theorem dX8_digest_188 : decode cX8_digest 188 = .ok (.iconst 4, 1) := by decide +kernel
theorem dX8_digest_189 : decode cX8_digest 189 = .ok (.irem, 1) := by decide +kernel
theorem dX8_digest_190 : decode cX8_digest 190 = .ok (.iadd, 1) := by decide +kernel
theorem dX8_digest_191 : decode cX8_digest 191 = .ok (.invokevirtual 323, 3) := by decide +kernel
theorem dX8_digest_194 : decode cX8_digest 194 = .ok (.i2l, 1) := by decide +kernel
theorem dX8_digest_195 : decode cX8_digest 195 = .ok (.ladd, 1) := by decide +kernel
theorem dX8_digest_196 : decode cX8_digest 196 = .ok (.lstore_n 1, 1) := by decide +kernel
theorem dX8_digest_197 : decode cX8_digest 197 = .ok (.iinc 3 1, 3) := by decide +kernel
theorem dX8_digest_200 : decode cX8_digest 200 = .ok (.goto (-36), 3) := by decide +kernel
theorem dX8_digest_203 : decode cX8_digest 203 = .ok (.iconst 0, 1) := by decide +kernel
theorem dX8_digest_204 : decode cX8_digest 204 = .ok (.istore_n 3, 1) := by decide +kernel
theorem dX8_digest_205 : decode cX8_digest 205 = .ok (.iload_n 3, 1) := by decide +kernel
theorem dX8_digest_206 : decode cX8_digest 206 = .ok (.aload_n 0, 1) := by decide +kernel
theorem dX8_digest_207 : decode cX8_digest 207 = .ok (.getfield 37, 3) := by decide +kernel
theorem dX8_digest_210 : decode cX8_digest 210 = .ok (.getfield 219, 3) := by decide +kernel
theorem dX8_digest_213 : decode cX8_digest 213 = .ok (.iconst 3, 1) := by decide +kernel
theorem dX8_digest_214 : decode cX8_digest 214 = .ok (.imul, 1) := by decide +kernel
theorem dX8_digest_215 : decode cX8_digest 215 = .ok (.if_icmp .ge 27, 3) := by decide +kernel
theorem dX8_digest_218 : decode cX8_digest 218 = .ok (.lload_n 1, 1) := by decide +kernel
theorem dX8_digest_219 : decode cX8_digest 219 = .ok (.ldc2_w 309, 3) := by decide +kernel
theorem dX8_digest_222 : decode cX8_digest 222 = .ok (.lmul, 1) := by decide +kernel
theorem dX8_digest_223 : decode cX8_digest 223 = .ok (.aload_n 0, 1) := by decide +kernel
theorem dX8_digest_224 : decode cX8_digest 224 = .ok (.iload_n 3, 1) := by decide +kernel
theorem dX8_digest_225 : decode cX8_digest 225 = .ok (.iconst 3, 1) := by decide +kernel
theorem dX8_digest_226 : decode cX8_digest 226 = .ok (.idiv, 1) := by decide +kernel
theorem dX8_digest_227 : decode cX8_digest 227 = .ok (.iload_n 3, 1) := by decide +kernel
theorem dX8_digest_228 : decode cX8_digest 228 = .ok (.iconst 3, 1) := by decide +kernel
theorem dX8_digest_229 : decode cX8_digest 229 = .ok (.irem, 1) := by decide +kernel
theorem dX8_digest_230 : decode cX8_digest 230 = .ok (.invokevirtual 326, 3) := by decide +kernel
theorem dX8_digest_233 : decode cX8_digest 233 = .ok (.i2l, 1) := by decide +kernel
theorem dX8_digest_234 : decode cX8_digest 234 = .ok (.ladd, 1) := by decide +kernel
theorem dX8_digest_235 : decode cX8_digest 235 = .ok (.lstore_n 1, 1) := by decide +kernel
theorem dX8_digest_236 : decode cX8_digest 236 = .ok (.iinc 3 1, 3) := by decide +kernel
theorem dX8_digest_239 : decode cX8_digest 239 = .ok (.goto (-34), 3) := by decide +kernel
theorem dX8_digest_242 : decode cX8_digest 242 = .ok (.iconst 0, 1) := by decide +kernel
theorem dX8_digest_243 : decode cX8_digest 243 = .ok (.istore_n 3, 1) := by decide +kernel
theorem dX8_digest_244 : decode cX8_digest 244 = .ok (.iload_n 3, 1) := by decide +kernel
theorem dX8_digest_245 : decode cX8_digest 245 = .ok (.bipush 10, 2) := by decide +kernel
theorem dX8_digest_247 : decode cX8_digest 247 = .ok (.if_icmp .gt 22, 3) := by decide +kernel
theorem dX8_digest_250 : decode cX8_digest 250 = .ok (.lload_n 1, 1) := by decide +kernel
theorem dX8_digest_251 : decode cX8_digest 251 = .ok (.ldc2_w 309, 3) := by decide +kernel
theorem dX8_digest_254 : decode cX8_digest 254 = .ok (.lmul, 1) := by decide +kernel
theorem dX8_digest_255 : decode cX8_digest 255 = .ok (.aload_n 0, 1) := by decide +kernel
theorem dX8_digest_256 : decode cX8_digest 256 = .ok (.iload_n 3, 1) := by decide +kernel
theorem dX8_digest_257 : decode cX8_digest 257 = .ok (.invokevirtual 329, 3) := by decide +kernel
theorem dX8_digest_260 : decode cX8_digest 260 = .ok (.i2l, 1) := by decide +kernel
theorem dX8_digest_261 : decode cX8_digest 261 = .ok (.ladd, 1) := by decide +kernel
theorem dX8_digest_262 : decode cX8_digest 262 = .ok (.lstore_n 1, 1) := by decide +kernel
theorem dX8_digest_263 : decode cX8_digest 263 = .ok (.iinc 3 1, 3) := by decide +kernel
theorem dX8_digest_266 : decode cX8_digest 266 = .ok (.goto (-22), 3) := by decide +kernel
theorem dX8_digest_269 : decode cX8_digest 269 = .ok (.iconst 0, 1) := by decide +kernel
theorem dX8_digest_270 : decode cX8_digest 270 = .ok (.istore_n 3, 1) := by decide +kernel
theorem dX8_digest_271 : decode cX8_digest 271 = .ok (.iload_n 3, 1) := by decide +kernel
theorem dX8_digest_272 : decode cX8_digest 272 = .ok (.aload_n 0, 1) := by decide +kernel
theorem dX8_digest_273 : decode cX8_digest 273 = .ok (.getfield 63, 3) := by decide +kernel
theorem dX8_digest_276 : decode cX8_digest 276 = .ok (.invokevirtual 263, 3) := by decide +kernel
theorem dX8_digest_279 : decode cX8_digest 279 = .ok (.iconst 3, 1) := by decide +kernel
theorem dX8_digest_280 : decode cX8_digest 280 = .ok (.imul, 1) := by decide +kernel
theorem dX8_digest_281 : decode cX8_digest 281 = .ok (.if_icmp .ge 27, 3) := by decide +kernel
theorem dX8_digest_284 : decode cX8_digest 284 = .ok (.lload_n 1, 1) := by decide +kernel
theorem dX8_digest_285 : decode cX8_digest 285 = .ok (.ldc2_w 309, 3) := by decide +kernel
theorem dX8_digest_288 : decode cX8_digest 288 = .ok (.lmul, 1) := by decide +kernel
theorem dX8_digest_289 : decode cX8_digest 289 = .ok (.aload_n 0, 1) := by decide +kernel
theorem dX8_digest_290 : decode cX8_digest 290 = .ok (.iload_n 3, 1) := by decide +kernel
theorem dX8_digest_291 : decode cX8_digest 291 = .ok (.iconst 3, 1) := by decide +kernel
theorem dX8_digest_292 : decode cX8_digest 292 = .ok (.idiv, 1) := by decide +kernel
theorem dX8_digest_293 : decode cX8_digest 293 = .ok (.iload_n 3, 1) := by decide +kernel
theorem dX8_digest_294 : decode cX8_digest 294 = .ok (.iconst 3, 1) := by decide +kernel
theorem dX8_digest_295 : decode cX8_digest 295 = .ok (.irem, 1) := by decide +kernel
theorem dX8_digest_296 : decode cX8_digest 296 = .ok (.invokevirtual 332, 3) := by decide +kernel
theorem dX8_digest_299 : decode cX8_digest 299 = .ok (.i2l, 1) := by decide +kernel
theorem dX8_digest_300 : decode cX8_digest 300 = .ok (.ladd, 1) := by decide +kernel
theorem dX8_digest_301 : decode cX8_digest 301 = .ok (.lstore_n 1, 1) := by decide +kernel
theorem dX8_digest_302 : decode cX8_digest 302 = .ok (.iinc 3 1, 3) := by decide +kernel
theorem dX8_digest_305 : decode cX8_digest 305 = .ok (.goto (-34), 3) := by decide +kernel
theorem dX8_digest_308 : decode cX8_digest 308 = .ok (.aload_n 0, 1) := by decide +kernel
theorem dX8_digest_309 : decode cX8_digest 309 = .ok (.getfield 37, 3) := by decide +kernel
theorem dX8_digest_312 : decode cX8_digest 312 = .ok (.getfield 219, 3) := by decide +kernel
theorem dX8_digest_315 : decode cX8_digest 315 = .ok (.ifCond .eq 5, 3) := by decide +kernel
theorem dX8_digest_320 : decode cX8_digest 320 = .ok (.lload_n 1, 1) := by decide +kernel
theorem dX8_digest_321 : decode cX8_digest 321 = .ok (.ldc2_w 309, 3) := by decide +kernel
theorem dX8_digest_324 : decode cX8_digest 324 = .ok (.lmul, 1) := by decide +kernel
theorem dX8_digest_325 : decode cX8_digest 325 = .ok (.aload_n 0, 1) := by decide +kernel
theorem dX8_digest_326 : decode cX8_digest 326 = .ok (.iconst 0, 1) := by decide +kernel
theorem dX8_digest_327 : decode cX8_digest 327 = .ok (.invokevirtual 295, 3) := by decide +kernel
theorem dX8_digest_330 : decode cX8_digest 330 = .ok (.i2l, 1) := by decide +kernel
theorem dX8_digest_331 : decode cX8_digest 331 = .ok (.ladd, 1) := by decide +kernel
theorem dX8_digest_332 : decode cX8_digest 332 = .ok (.lstore_n 1, 1) := by decide +kernel
theorem dX8_digest_333 : decode cX8_digest 333 = .ok (.aload_n 0, 1) := by decide +kernel
theorem dX8_digest_334 : decode cX8_digest 334 = .ok (.getfield 56, 3) := by decide +kernel
theorem dX8_digest_337 : decode cX8_digest 337 = .ok (.iconst 0, 1) := by decide +kernel
theorem dX8_digest_338 : decode cX8_digest 338 = .ok (.aload_n 0, 1) := by decide +kernel
theorem dX8_digest_339 : decode cX8_digest 339 = .ok (.getfield 78, 3) := by decide +kernel
theorem dX8_digest_342 : decode cX8_digest 342 = .ok (.aload_n 0, 1) := by decide +kernel
theorem dX8_digest_343 : decode cX8_digest 343 = .ok (.getfield 81, 3) := by decide +kernel
theorem dX8_digest_346 : decode cX8_digest 346 = .ok (.aload_n 0, 1) := by decide +kernel
theorem dX8_digest_347 : decode cX8_digest 347 = .ok (.getfield 67, 3) := by decide +kernel
theorem dX8_digest_350 : decode cX8_digest 350 = .ok (.invokevirtual 253, 3) := by decide +kernel
theorem dX8_digest_353 : decode cX8_digest 353 = .ok (.lload_n 1, 1) := by decide +kernel
theorem dX8_digest_354 : decode cX8_digest 354 = .ok (.ldc2_w 309, 3) := by decide +kernel
theorem dX8_digest_357 : decode cX8_digest 357 = .ok (.lmul, 1) := by decide +kernel
theorem dX8_digest_358 : decode cX8_digest 358 = .ok (.aload_n 0, 1) := by decide +kernel
theorem dX8_digest_359 : decode cX8_digest 359 = .ok (.getfield 67, 3) := by decide +kernel
theorem dX8_digest_362 : decode cX8_digest 362 = .ok (.getfield 298, 3) := by decide +kernel
theorem dX8_digest_365 : decode cX8_digest 365 = .ok (.i2l, 1) := by decide +kernel
theorem dX8_digest_366 : decode cX8_digest 366 = .ok (.ladd, 1) := by decide +kernel
theorem dX8_digest_367 : decode cX8_digest 367 = .ok (.lstore_n 1, 1) := by decide +kernel
theorem dX8_digest_368 : decode cX8_digest 368 = .ok (.lload_n 1, 1) := by decide +kernel
theorem dX8_digest_369 : decode cX8_digest 369 = .ok (.ldc2_w 309, 3) := by decide +kernel
theorem dX8_digest_372 : decode cX8_digest 372 = .ok (.lmul, 1) := by decide +kernel
theorem dX8_digest_373 : decode cX8_digest 373 = .ok (.aload_n 0, 1) := by decide +kernel
theorem dX8_digest_374 : decode cX8_digest 374 = .ok (.getfield 67, 3) := by decide +kernel
theorem dX8_digest_377 : decode cX8_digest 377 = .ok (.getfield 301, 3) := by decide +kernel
theorem dX8_digest_380 : decode cX8_digest 380 = .ok (.i2l, 1) := by decide +kernel
theorem dX8_digest_381 : decode cX8_digest 381 = .ok (.ladd, 1) := by decide +kernel
theorem dX8_digest_382 : decode cX8_digest 382 = .ok (.lstore_n 1, 1) := by decide +kernel
theorem dX8_digest_383 : decode cX8_digest 383 = .ok (.aload_n 0, 1) := by decide +kernel
theorem dX8_digest_384 : decode cX8_digest 384 = .ok (.getfield 56, 3) := by decide +kernel
theorem dX8_digest_387 : decode cX8_digest 387 = .ok (.aload_n 0, 1) := by decide +kernel
theorem dX8_digest_388 : decode cX8_digest 388 = .ok (.getfield 74, 3) := by decide +kernel
theorem dX8_digest_391 : decode cX8_digest 391 = .ok (.sipush 200, 3) := by decide +kernel
theorem dX8_digest_394 : decode cX8_digest 394 = .ok (.bipush 10, 2) := by decide +kernel
theorem dX8_digest_396 : decode cX8_digest 396 = .ok (.aload_n 0, 1) := by decide +kernel
theorem dX8_digest_397 : decode cX8_digest 397 = .ok (.getfield 67, 3) := by decide +kernel
theorem dX8_digest_400 : decode cX8_digest 400 = .ok (.invokevirtual 253, 3) := by decide +kernel
theorem dX8_digest_403 : decode cX8_digest 403 = .ok (.iconst 0, 1) := by decide +kernel
theorem dX8_digest_404 : decode cX8_digest 404 = .ok (.istore_n 3, 1) := by decide +kernel
theorem dX8_digest_405 : decode cX8_digest 405 = .ok (.iload_n 3, 1) := by decide +kernel
theorem dX8_digest_406 : decode cX8_digest 406 = .ok (.bipush 9, 2) := by decide +kernel
theorem dX8_digest_408 : decode cX8_digest 408 = .ok (.if_icmp .gt 25, 3) := by decide +kernel
theorem dX8_digest_411 : decode cX8_digest 411 = .ok (.lload_n 1, 1) := by decide +kernel
theorem dX8_digest_412 : decode cX8_digest 412 = .ok (.ldc2_w 309, 3) := by decide +kernel
theorem dX8_digest_415 : decode cX8_digest 415 = .ok (.lmul, 1) := by decide +kernel
theorem dX8_digest_416 : decode cX8_digest 416 = .ok (.aload_n 0, 1) := by decide +kernel
theorem dX8_digest_417 : decode cX8_digest 417 = .ok (.getfield 67, 3) := by decide +kernel
theorem dX8_digest_420 : decode cX8_digest 420 = .ok (.iload_n 3, 1) := by decide +kernel
theorem dX8_digest_421 : decode cX8_digest 421 = .ok (.invokevirtual 260, 3) := by decide +kernel
theorem dX8_digest_424 : decode cX8_digest 424 = .ok (.i2l, 1) := by decide +kernel
theorem dX8_digest_425 : decode cX8_digest 425 = .ok (.ladd, 1) := by decide +kernel
theorem dX8_digest_426 : decode cX8_digest 426 = .ok (.lstore_n 1, 1) := by decide +kernel
theorem dX8_digest_427 : decode cX8_digest 427 = .ok (.iinc 3 1, 3) := by decide +kernel
theorem dX8_digest_430 : decode cX8_digest 430 = .ok (.goto (-25), 3) := by decide +kernel
theorem dX8_digest_433 : decode cX8_digest 433 = .ok (.lload_n 1, 1) := by decide +kernel
theorem dX8_digest_434 : decode cX8_digest 434 = .ok (.lreturn, 1) := by decide +kernel
theorem dX8_digest_318 : decode cX8_digest 318 = .ok (.lload_n 1, 1) := by decide +kernel
theorem dX8_needState_0 : decode cX8_needState 0 = .ok (.iload_n 0, 1) := by decide +kernel
theorem dX8_needState_1 : decode cX8_needState 1 = .ok (.ifCond .ne 14, 3) := by decide +kernel
theorem dX8_needState_15 : decode cX8_needState 15 = .ok (.return_, 1) := by decide +kernel
theorem dX8_run_0 : decode cX8_run 0 = .ok (.aload_n 0, 1) := by decide +kernel
theorem dX8_run_1 : decode cX8_run 1 = .ok (.invokevirtual 146, 3) := by decide +kernel
theorem dX8_run_4 : decode cX8_run 4 = .ok (.aload_n 0, 1) := by decide +kernel
theorem dX8_run_5 : decode cX8_run 5 = .ok (.getfield 37, 3) := by decide +kernel
theorem dX8_run_8 : decode cX8_run 8 = .ok (.getfield 219, 3) := by decide +kernel
theorem dX8_run_11 : decode cX8_run 11 = .ok (.ifCond .ne 7, 3) := by decide +kernel
theorem dX8_run_18 : decode cX8_run 18 = .ok (.iconst 0, 1) := by decide +kernel
theorem dX8_run_14 : decode cX8_run 14 = .ok (.iconst 1, 1) := by decide +kernel
theorem dX8_run_15 : decode cX8_run 15 = .ok (.goto 4, 3) := by decide +kernel
theorem dX8_run_19 : decode cX8_run 19 = .ok (.invokestatic 106, 3) := by decide +kernel
theorem dX8_run_22 : decode cX8_run 22 = .ok (.aload_n 0, 1) := by decide +kernel
theorem dX8_run_23 : decode cX8_run 23 = .ok (.getfield 56, 3) := by decide +kernel
theorem dX8_run_26 : decode cX8_run 26 = .ok (.aload_n 0, 1) := by decide +kernel
theorem dX8_run_27 : decode cX8_run 27 = .ok (.getfield 74, 3) := by decide +kernel
theorem dX8_run_30 : decode cX8_run 30 = .ok (.aload_n 0, 1) := by decide +kernel
theorem dX8_run_31 : decode cX8_run 31 = .ok (.getfield 78, 3) := by decide +kernel
theorem dX8_run_34 : decode cX8_run 34 = .ok (.aload_n 0, 1) := by decide +kernel
theorem dX8_run_35 : decode cX8_run 35 = .ok (.getfield 81, 3) := by decide +kernel
theorem dX8_run_38 : decode cX8_run 38 = .ok (.aload_n 0, 1) := by decide +kernel
theorem dX8_run_39 : decode cX8_run 39 = .ok (.getfield 63, 3) := by decide +kernel
theorem dX8_run_42 : decode cX8_run 42 = .ok (.invokevirtual 253, 3) := by decide +kernel
theorem dX8_run_45 : decode cX8_run 45 = .ok (.aload_n 0, 1) := by decide +kernel
theorem dX8_run_46 : decode cX8_run 46 = .ok (.dup, 1) := by decide +kernel
theorem dX8_run_47 : decode cX8_run 47 = .ok (.getfield 84, 3) := by decide +kernel
theorem dX8_run_50 : decode cX8_run 50 = .ok (.iconst 1, 1) := by decide +kernel
theorem dX8_run_51 : decode cX8_run 51 = .ok (.iadd, 1) := by decide +kernel
theorem dX8_run_52 : decode cX8_run 52 = .ok (.putfield 84, 3) := by decide +kernel
theorem dX8_run_55 : decode cX8_run 55 = .ok (.aload_n 0, 1) := by decide +kernel
theorem dX8_run_56 : decode cX8_run 56 = .ok (.getfield 63, 3) := by decide +kernel
theorem dX8_run_59 : decode cX8_run 59 = .ok (.getfield 257, 3) := by decide +kernel
theorem dX8_run_62 : decode cX8_run 62 = .ok (.ireturn, 1) := by decide +kernel
theorem dX8_areLimits_0 : decode cX8_areLimits 0 = .ok (.iload_n 0, 1) := by decide +kernel
theorem dX8_areLimits_1 : decode cX8_areLimits 1 = .ok (.iconst 1, 1) := by decide +kernel
theorem dX8_areLimits_2 : decode cX8_areLimits 2 = .ok (.if_icmp .lt 25, 3) := by decide +kernel
theorem dX8_areLimits_27 : decode cX8_areLimits 27 = .ok (.iconst 0, 1) := by decide +kernel
theorem dX8_areLimits_28 : decode cX8_areLimits 28 = .ok (.ireturn, 1) := by decide +kernel
theorem dX8_areLimits_5 : decode cX8_areLimits 5 = .ok (.iload_n 0, 1) := by decide +kernel
theorem dX8_areLimits_6 : decode cX8_areLimits 6 = .ok (.sipush 3000, 3) := by decide +kernel
theorem dX8_areLimits_9 : decode cX8_areLimits 9 = .ok (.if_icmp .gt 18, 3) := by decide +kernel
theorem dX8_areLimits_12 : decode cX8_areLimits 12 = .ok (.iload_n 1, 1) := by decide +kernel
theorem dX8_areLimits_13 : decode cX8_areLimits 13 = .ok (.iconst 1, 1) := by decide +kernel
theorem dX8_areLimits_14 : decode cX8_areLimits 14 = .ok (.if_icmp .lt 13, 3) := by decide +kernel
theorem dX8_areLimits_17 : decode cX8_areLimits 17 = .ok (.iload_n 1, 1) := by decide +kernel
theorem dX8_areLimits_18 : decode cX8_areLimits 18 = .ok (.bipush 40, 2) := by decide +kernel
theorem dX8_areLimits_20 : decode cX8_areLimits 20 = .ok (.if_icmp .gt 7, 3) := by decide +kernel
theorem dX8_areLimits_23 : decode cX8_areLimits 23 = .ok (.iconst 1, 1) := by decide +kernel
theorem dX8_areLimits_24 : decode cX8_areLimits 24 = .ok (.goto 4, 3) := by decide +kernel
theorem dX8_wouldRun_0 : decode cX8_wouldRun 0 = .ok (.iload_n 1, 1) := by decide +kernel
theorem dX8_wouldRun_1 : decode cX8_wouldRun 1 = .ok (.iload_n 2, 1) := by decide +kernel
theorem dX8_wouldRun_2 : decode cX8_wouldRun 2 = .ok (.invokestatic 250, 3) := by decide +kernel
theorem dX8_wouldRun_5 : decode cX8_wouldRun 5 = .ok (.ifCond .eq 17, 3) := by decide +kernel
theorem dX8_wouldRun_22 : decode cX8_wouldRun 22 = .ok (.iconst 0, 1) := by decide +kernel
theorem dX8_wouldRun_8 : decode cX8_wouldRun 8 = .ok (.iload_n 3, 1) := by decide +kernel
theorem dX8_wouldRun_9 : decode cX8_wouldRun 9 = .ok (.ifCond .lt 13, 3) := by decide +kernel
theorem dX8_wouldRun_12 : decode cX8_wouldRun 12 = .ok (.iload_n 3, 1) := by decide +kernel
theorem dX8_wouldRun_13 : decode cX8_wouldRun 13 = .ok (.bipush 9, 2) := by decide +kernel
theorem dX8_wouldRun_15 : decode cX8_wouldRun 15 = .ok (.if_icmp .gt 7, 3) := by decide +kernel
theorem dX8_wouldRun_18 : decode cX8_wouldRun 18 = .ok (.iconst 1, 1) := by decide +kernel
theorem dX8_wouldRun_19 : decode cX8_wouldRun 19 = .ok (.goto 4, 3) := by decide +kernel
theorem dX8_wouldRun_23 : decode cX8_wouldRun 23 = .ok (.invokestatic 95, 3) := by decide +kernel
theorem dX8_wouldRun_26 : decode cX8_wouldRun 26 = .ok (.aload_n 0, 1) := by decide +kernel
theorem dX8_wouldRun_27 : decode cX8_wouldRun 27 = .ok (.invokevirtual 146, 3) := by decide +kernel
