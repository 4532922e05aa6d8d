theorem dX8_fault_40 : decode cX8_fault 40 = .ok (.iconst 0, 1) := by decide +kernel
theorem dX8_fault_31 : decode cX8_fault 31 = .ok (.iload_n 2, 1) := by decide +kernel
theorem dX8_fault_32 : decode cX8_fault 32 = .ok (.iconst 2, 1) := by decide +kernel
theorem dX8_fault_33 : decode cX8_fault 33 = .ok (.if_icmp .gt 7, 3) := by decide +kernel
theorem dX8_fault_36 : decode cX8_fault 36 = .ok (.iconst 1, 1) := by decide +kernel
theorem dX8_fault_37 : decode cX8_fault 37 = .ok (.goto 4, 3) := by decide +kernel
theorem dX8_fault_41 : decode cX8_fault 41 = .ok (.invokestatic 95, 3) := by decide +kernel
theorem dX8_fault_44 : decode cX8_fault 44 = .ok (.iload_n 2, 1) := by decide +kernel
theorem dX8_fault_45 : decode cX8_fault 45 = .ok (.lookupswitch 47 #[(0, 27), (1, 37)], 27) := by decide +kernel
theorem dX8_fault_72 : decode cX8_fault 72 = .ok (.aload_n 0, 1) := by decide +kernel
theorem dX8_fault_73 : decode cX8_fault 73 = .ok (.getfield 37, 3) := by decide +kernel
theorem dX8_fault_76 : decode cX8_fault 76 = .ok (.getfield 223, 3) := by decide +kernel
theorem dX8_fault_79 : decode cX8_fault 79 = .ok (.iload_n 1, 1) := by decide +kernel
theorem dX8_fault_80 : decode cX8_fault 80 = .ok (.iaload, 1) := by decide +kernel
theorem dX8_fault_81 : decode cX8_fault 81 = .ok (.ireturn, 1) := by decide +kernel
theorem dX8_fault_82 : decode cX8_fault 82 = .ok (.aload_n 0, 1) := by decide +kernel
theorem dX8_fault_83 : decode cX8_fault 83 = .ok (.getfield 37, 3) := by decide +kernel
theorem dX8_fault_86 : decode cX8_fault 86 = .ok (.getfield 226, 3) := by decide +kernel
theorem dX8_fault_89 : decode cX8_fault 89 = .ok (.iload_n 1, 1) := by decide +kernel
theorem dX8_fault_90 : decode cX8_fault 90 = .ok (.iaload, 1) := by decide +kernel
theorem dX8_fault_91 : decode cX8_fault 91 = .ok (.ireturn, 1) := by decide +kernel
theorem dX8_fault_92 : decode cX8_fault 92 = .ok (.aload_n 0, 1) := by decide +kernel
theorem dX8_fault_93 : decode cX8_fault 93 = .ok (.getfield 37, 3) := by decide +kernel
theorem dX8_fault_96 : decode cX8_fault 96 = .ok (.getfield 229, 3) := by decide +kernel
theorem dX8_fault_99 : decode cX8_fault 99 = .ok (.iload_n 1, 1) := by decide +kernel
theorem dX8_fault_100 : decode cX8_fault 100 = .ok (.iaload, 1) := by decide +kernel
theorem dX8_fault_101 : decode cX8_fault 101 = .ok (.ireturn, 1) := by decide +kernel
theorem dX6_answer_0 : decode cX6_answer 0 = .ok (.iload_n 1, 1) := by decide +kernel
theorem dX6_answer_1 : decode cX6_answer 1 = .ok (.tableswitch 96 0 8 #[51, 56, 61, 66, 71, 76, 81, 86, 91], 51) := by decide +kernel
theorem dX6_answer_52 : decode cX6_answer 52 = .ok (.aload_n 0, 1) := by decide +kernel
theorem dX6_answer_53 : decode cX6_answer 53 = .ok (.getfield 9, 3) := by decide +kernel
theorem dX6_answer_56 : decode cX6_answer 56 = .ok (.ireturn, 1) := by decide +kernel
theorem dX6_answer_57 : decode cX6_answer 57 = .ok (.aload_n 0, 1) := by decide +kernel
theorem dX6_answer_58 : decode cX6_answer 58 = .ok (.getfield 15, 3) := by decide +kernel
theorem dX6_answer_61 : decode cX6_answer 61 = .ok (.ireturn, 1) := by decide +kernel
theorem dX6_answer_62 : decode cX6_answer 62 = .ok (.aload_n 0, 1) := by decide +kernel
theorem dX6_answer_63 : decode cX6_answer 63 = .ok (.getfield 18, 3) := by decide +kernel
theorem dX6_answer_66 : decode cX6_answer 66 = .ok (.ireturn, 1) := by decide +kernel
theorem dX6_answer_67 : decode cX6_answer 67 = .ok (.aload_n 0, 1) := by decide +kernel
theorem dX6_answer_68 : decode cX6_answer 68 = .ok (.getfield 21, 3) := by decide +kernel
theorem dX6_answer_71 : decode cX6_answer 71 = .ok (.ireturn, 1) := by decide +kernel
theorem dX6_answer_72 : decode cX6_answer 72 = .ok (.aload_n 0, 1) := by decide +kernel
theorem dX6_answer_73 : decode cX6_answer 73 = .ok (.getfield 24, 3) := by decide +kernel
theorem dX6_answer_76 : decode cX6_answer 76 = .ok (.ireturn, 1) := by decide +kernel
theorem dX6_answer_77 : decode cX6_answer 77 = .ok (.aload_n 0, 1) := by decide +kernel
theorem dX6_answer_78 : decode cX6_answer 78 = .ok (.getfield 27, 3) := by decide +kernel
theorem dX6_answer_81 : decode cX6_answer 81 = .ok (.ireturn, 1) := by decide +kernel
theorem dX6_answer_82 : decode cX6_answer 82 = .ok (.aload_n 0, 1) := by decide +kernel
theorem dX6_answer_83 : decode cX6_answer 83 = .ok (.getfield 30, 3) := by decide +kernel
theorem dX6_answer_86 : decode cX6_answer 86 = .ok (.ireturn, 1) := by decide +kernel
theorem dX6_answer_87 : decode cX6_answer 87 = .ok (.aload_n 0, 1) := by decide +kernel
theorem dX6_answer_88 : decode cX6_answer 88 = .ok (.getfield 33, 3) := by decide +kernel
theorem dX6_answer_91 : decode cX6_answer 91 = .ok (.ireturn, 1) := by decide +kernel
theorem dX6_answer_92 : decode cX6_answer 92 = .ok (.aload_n 0, 1) := by decide +kernel
theorem dX6_answer_93 : decode cX6_answer 93 = .ok (.getfield 36, 3) := by decide +kernel
theorem dX6_answer_96 : decode cX6_answer 96 = .ok (.ireturn, 1) := by decide +kernel
theorem dX6_answer_97 : decode cX6_answer 97 = .ok (.aload_n 0, 1) := by decide +kernel
theorem dX6_answer_98 : decode cX6_answer 98 = .ok (.getfield 39, 3) := by decide +kernel
theorem dX6_answer_101 : decode cX6_answer 101 = .ok (.ireturn, 1) := by decide +kernel
theorem dX8_ofRun_0 : decode cX8_ofRun 0 = .ok (.iload_n 1, 1) := by decide +kernel
theorem dX8_ofRun_1 : decode cX8_ofRun 1 = .ok (.ifCond .lt 13, 3) := by decide +kernel
theorem dX8_ofRun_14 : decode cX8_ofRun 14 = .ok (.iconst 0, 1) := by decide +kernel
theorem dX8_ofRun_4 : decode cX8_ofRun 4 = .ok (.iload_n 1, 1) := by decide +kernel
theorem dX8_ofRun_5 : decode cX8_ofRun 5 = .ok (.bipush 10, 2) := by decide +kernel
theorem dX8_ofRun_7 : decode cX8_ofRun 7 = .ok (.if_icmp .gt 7, 3) := by decide +kernel
theorem dX8_ofRun_10 : decode cX8_ofRun 10 = .ok (.iconst 1, 1) := by decide +kernel
theorem dX8_ofRun_11 : decode cX8_ofRun 11 = .ok (.goto 4, 3) := by decide +kernel
theorem dX8_ofRun_15 : decode cX8_ofRun 15 = .ok (.invokestatic 95, 3) := by decide +kernel
theorem dX8_ofRun_18 : decode cX8_ofRun 18 = .ok (.iload_n 1, 1) := by decide +kernel
theorem dX8_ofRun_19 : decode cX8_ofRun 19 = .ok (.bipush 10, 2) := by decide +kernel
theorem dX8_ofRun_21 : decode cX8_ofRun 21 = .ok (.if_icmp .ne 10, 3) := by decide +kernel
theorem dX8_ofRun_31 : decode cX8_ofRun 31 = .ok (.aload_n 0, 1) := by decide +kernel
theorem dX8_ofRun_32 : decode cX8_ofRun 32 = .ok (.getfield 63, 3) := by decide +kernel
theorem dX8_ofRun_35 : decode cX8_ofRun 35 = .ok (.iload_n 1, 1) := by decide +kernel
theorem dX8_ofRun_36 : decode cX8_ofRun 36 = .ok (.invokevirtual 260, 3) := by decide +kernel
theorem dX8_ofRun_39 : decode cX8_ofRun 39 = .ok (.ireturn, 1) := by decide +kernel
theorem dX8_ofRun_24 : decode cX8_ofRun 24 = .ok (.aload_n 0, 1) := by decide +kernel
theorem dX8_ofRun_25 : decode cX8_ofRun 25 = .ok (.getfield 84, 3) := by decide +kernel
theorem dX8_ofRun_28 : decode cX8_ofRun 28 = .ok (.goto 11, 3) := by decide +kernel
theorem dX6_kept_0 : decode cX6_kept 0 = .ok (.aload_n 0, 1) := by decide +kernel
theorem dX6_kept_1 : decode cX6_kept 1 = .ok (.getfield 24, 3) := by decide +kernel
theorem dX6_kept_4 : decode cX6_kept 4 = .ok (.bipush 50, 2) := by decide +kernel
theorem dX6_kept_6 : decode cX6_kept 6 = .ok (.if_icmp .ge 10, 3) := by decide +kernel
theorem dX6_kept_16 : decode cX6_kept 16 = .ok (.bipush 50, 2) := by decide +kernel
theorem dX6_kept_18 : decode cX6_kept 18 = .ok (.ireturn, 1) := by decide +kernel
theorem dX6_kept_9 : decode cX6_kept 9 = .ok (.aload_n 0, 1) := by decide +kernel
theorem dX6_kept_10 : decode cX6_kept 10 = .ok (.getfield 24, 3) := by decide +kernel
theorem dX6_kept_13 : decode cX6_kept 13 = .ok (.goto 5, 3) := by decide +kernel
theorem dX8_printed_0 : decode cX8_printed 0 = .ok (.iload_n 1, 1) := by decide +kernel
theorem dX8_printed_1 : decode cX8_printed 1 = .ok (.ifCond .lt 18, 3) := by decide +kernel
theorem dX8_printed_19 : decode cX8_printed 19 = .ok (.iconst 0, 1) := by decide +kernel
theorem dX8_printed_4 : decode cX8_printed 4 = .ok (.iload_n 1, 1) := by decide +kernel
theorem dX8_printed_5 : decode cX8_printed 5 = .ok (.aload_n 0, 1) := by decide +kernel
theorem dX8_printed_6 : decode cX8_printed 6 = .ok (.getfield 63, 3) := by decide +kernel
theorem dX8_printed_9 : decode cX8_printed 9 = .ok (.invokevirtual 263, 3) := by decide +kernel
theorem dX8_printed_12 : decode cX8_printed 12 = .ok (.if_icmp .ge 7, 3) := by decide +kernel
theorem dX8_printed_15 : decode cX8_printed 15 = .ok (.iconst 1, 1) := by decide +kernel
theorem dX8_printed_16 : decode cX8_printed 16 = .ok (.goto 4, 3) := by decide +kernel
theorem dX8_printed_20 : decode cX8_printed 20 = .ok (.invokestatic 220, 3) := by decide +kernel
theorem dX8_printed_23 : decode cX8_printed 23 = .ok (.iload_n 2, 1) := by decide +kernel
theorem dX8_printed_24 : decode cX8_printed 24 = .ok (.ifCond .lt 12, 3) := by decide +kernel
theorem dX8_printed_36 : decode cX8_printed 36 = .ok (.iconst 0, 1) := by decide +kernel
theorem dX8_printed_27 : decode cX8_printed 27 = .ok (.iload_n 2, 1) := by decide +kernel
theorem dX8_printed_28 : decode cX8_printed 28 = .ok (.iconst 2, 1) := by decide +kernel
theorem dX8_printed_29 : decode cX8_printed 29 = .ok (.if_icmp .gt 7, 3) := by decide +kernel
theorem dX8_printed_32 : decode cX8_printed 32 = .ok (.iconst 1, 1) := by decide +kernel
theorem dX8_printed_33 : decode cX8_printed 33 = .ok (.goto 4, 3) := by decide +kernel
theorem dX8_printed_37 : decode cX8_printed 37 = .ok (.invokestatic 95, 3) := by decide +kernel
theorem dX8_printed_40 : decode cX8_printed 40 = .ok (.iload_n 2, 1) := by decide +kernel
theorem dX8_printed_41 : decode cX8_printed 41 = .ok (.lookupswitch 47 #[(0, 27), (1, 37)], 27) := by decide +kernel
theorem dX8_printed_68 : decode cX8_printed 68 = .ok (.aload_n 0, 1) := by decide +kernel
theorem dX8_printed_69 : decode cX8_printed 69 = .ok (.getfield 63, 3) := by decide +kernel
theorem dX8_printed_72 : decode cX8_printed 72 = .ok (.getfield 267, 3) := by decide +kernel
theorem dX8_printed_75 : decode cX8_printed 75 = .ok (.iload_n 1, 1) := by decide +kernel
theorem dX8_printed_76 : decode cX8_printed 76 = .ok (.iaload, 1) := by decide +kernel
theorem dX8_printed_77 : decode cX8_printed 77 = .ok (.ireturn, 1) := by decide +kernel
theorem dX8_printed_78 : decode cX8_printed 78 = .ok (.aload_n 0, 1) := by decide +kernel
theorem dX8_printed_79 : decode cX8_printed 79 = .ok (.getfield 63, 3) := by decide +kernel
theorem dX8_printed_82 : decode cX8_printed 82 = .ok (.getfield 270, 3) := by decide +kernel
theorem dX8_printed_85 : decode cX8_printed 85 = .ok (.iload_n 1, 1) := by decide +kernel
theorem dX8_printed_86 : decode cX8_printed 86 = .ok (.iaload, 1) := by decide +kernel
theorem dX8_printed_87 : decode cX8_printed 87 = .ok (.ireturn, 1) := by decide +kernel
theorem dX8_printed_88 : decode cX8_printed 88 = .ok (.aload_n 0, 1) := by decide +kernel
theorem dX8_printed_89 : decode cX8_printed 89 = .ok (.getfield 63, 3) := by decide +kernel
theorem dX8_printed_92 : decode cX8_printed 92 = .ok (.getfield 273, 3) := by decide +kernel
theorem dX8_printed_95 : decode cX8_printed 95 = .ok (.iload_n 1, 1) := by decide +kernel
theorem dX8_printed_96 : decode cX8_printed 96 = .ok (.iaload, 1) := by decide +kernel
theorem dX8_printed_97 : decode cX8_printed 97 = .ok (.ireturn, 1) := by decide +kernel
theorem dX7_cut_0 : decode cX7_cut 0 = .ok (.iload_n 1, 1) := by decide +kernel
theorem dX7_cut_1 : decode cX7_cut 1 = .ok (.ifCond .lt 16, 3) := by decide +kernel
theorem dX7_cut_17 : decode cX7_cut 17 = .ok (.return_, 1) := by decide +kernel
theorem dX7_cut_4 : decode cX7_cut 4 = .ok (.iload_n 1, 1) := by decide +kernel
theorem dX7_cut_5 : decode cX7_cut 5 = .ok (.aload_n 0, 1) := by decide +kernel
theorem dX7_cut_6 : decode cX7_cut 6 = .ok (.getfield 9, 3) := by decide +kernel
theorem dX7_cut_9 : decode cX7_cut 9 = .ok (.if_icmp .ge 8, 3) := by decide +kernel
theorem dX7_cut_12 : decode cX7_cut 12 = .ok (.aload_n 0, 1) := by decide +kernel
theorem dX7_cut_13 : decode cX7_cut 13 = .ok (.iload_n 1, 1) := by decide +kernel
theorem dX7_cut_14 : decode cX7_cut 14 = .ok (.putfield 9, 3) := by decide +kernel
theorem dX3_clear_0 : decode cX3_clear 0 = .ok (.aload_n 0, 1) := by decide +kernel
theorem dX3_clear_1 : decode cX3_clear 1 = .ok (.getfield 14, 3) := by decide +kernel
theorem dX3_clear_4 : decode cX3_clear 4 = .ok (.iconst 0, 1) := by decide +kernel
theorem dX3_clear_5 : decode cX3_clear 5 = .ok (.invokevirtual 111, 3) := by decide +kernel
theorem dX3_clear_8 : decode cX3_clear 8 = .ok (.aload_n 0, 1) := by decide +kernel
theorem dX3_clear_9 : decode cX3_clear 9 = .ok (.getfield 20, 3) := by decide +kernel
theorem dX3_clear_12 : decode cX3_clear 12 = .ok (.iconst 0, 1) := by decide +kernel
theorem dX3_clear_13 : decode cX3_clear 13 = .ok (.invokevirtual 111, 3) := by decide +kernel
theorem dX3_clear_16 : decode cX3_clear 16 = .ok (.aload_n 0, 1) := by decide +kernel
theorem dX3_clear_17 : decode cX3_clear 17 = .ok (.getfield 23, 3) := by decide +kernel
theorem dX3_clear_20 : decode cX3_clear 20 = .ok (.iconst 0, 1) := by decide +kernel
theorem dX3_clear_21 : decode cX3_clear 21 = .ok (.invokevirtual 111, 3) := by decide +kernel
theorem dX3_clear_24 : decode cX3_clear 24 = .ok (.aload_n 0, 1) := by decide +kernel
theorem dX3_clear_25 : decode cX3_clear 25 = .ok (.getfield 26, 3) := by decide +kernel
theorem dX3_clear_28 : decode cX3_clear 28 = .ok (.iconst 0, 1) := by decide +kernel
theorem dX3_clear_29 : decode cX3_clear 29 = .ok (.invokevirtual 111, 3) := by decide +kernel
theorem dX3_clear_32 : decode cX3_clear 32 = .ok (.aload_n 0, 1) := by decide +kernel
theorem dX3_clear_33 : decode cX3_clear 33 = .ok (.getfield 29, 3) := by decide +kernel
theorem dX3_clear_36 : decode cX3_clear 36 = .ok (.iconst 0, 1) := by decide +kernel
theorem dX3_clear_37 : decode cX3_clear 37 = .ok (.invokevirtual 111, 3) := by decide +kernel
theorem dX3_clear_40 : decode cX3_clear 40 = .ok (.aload_n 0, 1) := by decide +kernel
theorem dX3_clear_41 : decode cX3_clear 41 = .ok (.iconst (-1), 1) := by decide +kernel
theorem dX3_clear_42 : decode cX3_clear 42 = .ok (.putfield 49, 3) := by decide +kernel
theorem dX3_clear_45 : decode cX3_clear 45 = .ok (.aload_n 0, 1) := by decide +kernel
theorem dX3_clear_46 : decode cX3_clear 46 = .ok (.iconst 0, 1) := by decide +kernel
theorem dX3_clear_47 : decode cX3_clear 47 = .ok (.putfield 52, 3) := by decide +kernel
theorem dX3_clear_50 : decode cX3_clear 50 = .ok (.aload_n 0, 1) := by decide +kernel
theorem dX3_clear_51 : decode cX3_clear 51 = .ok (.iconst 0, 1) := by decide +kernel
theorem dX3_clear_52 : decode cX3_clear 52 = .ok (.putfield 55, 3) := by decide +kernel
theorem dX3_clear_55 : decode cX3_clear 55 = .ok (.aload_n 0, 1) := by decide +kernel
theorem dX3_clear_56 : decode cX3_clear 56 = .ok (.iconst 0, 1) := by decide +kernel
theorem dX3_clear_57 : decode cX3_clear 57 = .ok (.putfield 58, 3) := by decide +kernel
theorem dX3_clear_60 : decode cX3_clear 60 = .ok (.return_, 1) := by decide +kernel
theorem dX6_start_0 : decode cX6_start 0 = .ok (.aload_n 0, 1) := by decide +kernel
theorem dX6_start_1 : decode cX6_start 1 = .ok (.iconst 0, 1) := by decide +kernel
theorem dX6_start_2 : decode cX6_start 2 = .ok (.putfield 9, 3) := by decide +kernel
theorem dX6_start_5 : decode cX6_start 5 = .ok (.aload_n 0, 1) := by decide +kernel
theorem dX6_start_6 : decode cX6_start 6 = .ok (.iconst (-1), 1) := by decide +kernel
theorem dX6_start_7 : decode cX6_start 7 = .ok (.putfield 15, 3) := by decide +kernel
theorem dX6_start_10 : decode cX6_start 10 = .ok (.aload_n 0, 1) := by decide +kernel
theorem dX6_start_11 : decode cX6_start 11 = .ok (.iconst (-1), 1) := by decide +kernel
theorem dX6_start_12 : decode cX6_start 12 = .ok (.putfield 18, 3) := by decide +kernel
theorem dX6_start_15 : decode cX6_start 15 = .ok (.aload_n 0, 1) := by decide +kernel
theorem dX6_start_16 : decode cX6_start 16 = .ok (.iconst 0, 1) := by decide +kernel
theorem dX6_start_17 : decode cX6_start 17 = .ok (.putfield 21, 3) := by decide +kernel
theorem dX6_start_20 : decode cX6_start 20 = .ok (.aload_n 0, 1) := by decide +kernel
theorem dX6_start_21 : decode cX6_start 21 = .ok (.iconst 0, 1) := by decide +kernel
theorem dX6_start_22 : decode cX6_start 22 = .ok (.putfield 24, 3) := by decide +kernel
theorem dX6_start_25 : decode cX6_start 25 = .ok (.aload_n 0, 1) := by decide +kernel
theorem dX6_start_26 : decode cX6_start 26 = .ok (.iconst 0, 1) := by decide +kernel
theorem dX6_start_27 : decode cX6_start 27 = .ok (.putfield 27, 3) := by decide +kernel
theorem dX6_start_30 : decode cX6_start 30 = .ok (.aload_n 0, 1) := by decide +kernel
theorem dX6_start_31 : decode cX6_start 31 = .ok (.iconst 0, 1) := by decide +kernel
theorem dX6_start_32 : decode cX6_start 32 = .ok (.putfield 30, 3) := by decide +kernel
theorem dX6_start_35 : decode cX6_start 35 = .ok (.aload_n 0, 1) := by decide +kernel
theorem dX6_start_36 : decode cX6_start 36 = .ok (.iconst 0, 1) := by decide +kernel
theorem dX6_start_37 : decode cX6_start 37 = .ok (.putfield 33, 3) := by decide +kernel
theorem dX6_start_40 : decode cX6_start 40 = .ok (.aload_n 0, 1) := by decide +kernel
theorem dX6_start_41 : decode cX6_start 41 = .ok (.iconst 0, 1) := by decide +kernel
theorem dX6_start_42 : decode cX6_start 42 = .ok (.putfield 36, 3) := by decide +kernel
theorem dX6_start_45 : decode cX6_start 45 = .ok (.aload_n 0, 1) := by decide +kernel
theorem dX6_start_46 : decode cX6_start 46 = .ok (.iconst 0, 1) := by decide +kernel
theorem dX6_start_47 : decode cX6_start 47 = .ok (.putfield 39, 3) := by decide +kernel
theorem dX6_start_50 : decode cX6_start 50 = .ok (.aload_n 0, 1) := by decide +kernel
theorem dX6_start_51 : decode cX6_start 51 = .ok (.lconst 0, 1) := by decide +kernel
theorem dX6_start_52 : decode cX6_start 52 = .ok (.putfield 42, 3) := by decide +kernel
theorem dX6_start_55 : decode cX6_start 55 = .ok (.return_, 1) := by decide +kernel
theorem dX7_add_0 : decode cX7_add 0 = .ok (.aload_n 0, 1) := by decide +kernel
theorem dX7_add_1 : decode cX7_add 1 = .ok (.getfield 9, 3) := by decide +kernel
theorem dX7_add_4 : decode cX7_add 4 = .ok (.iconst 1, 1) := by decide +kernel
theorem dX7_add_5 : decode cX7_add 5 = .ok (.iadd, 1) := by decide +kernel
theorem dX7_add_6 : decode cX7_add 6 = .ok (.aload_n 0, 1) := by decide +kernel
theorem dX7_add_7 : decode cX7_add 7 = .ok (.getfield 15, 3) := by decide +kernel
theorem dX7_add_10 : decode cX7_add 10 = .ok (.imul, 1) := by decide +kernel
theorem dX7_add_11 : decode cX7_add 11 = .ok (.istore_n 1, 1) := by decide +kernel
theorem dX7_add_12 : decode cX7_add 12 = .ok (.iload_n 1, 1) := by decide +kernel
theorem dX7_add_13 : decode cX7_add 13 = .ok (.aload_n 0, 1) := by decide +kernel
theorem dX7_add_14 : decode cX7_add 14 = .ok (.getfield 18, 3) := by decide +kernel
theorem dX7_add_17 : decode cX7_add 17 = .ok (.arraylength, 1) := by decide +kernel
theorem dX7_add_18 : decode cX7_add 18 = .ok (.if_icmp .le 31, 3) := by decide +kernel
theorem dX7_add_49 : decode cX7_add 49 = .ok (.iload_n 1, 1) := by decide +kernel
theorem dX7_add_50 : decode cX7_add 50 = .ok (.aload_n 0, 1) := by decide +kernel
theorem dX7_add_51 : decode cX7_add 51 = .ok (.getfield 18, 3) := by decide +kernel
theorem dX7_add_54 : decode cX7_add 54 = .ok (.arraylength, 1) := by decide +kernel
theorem dX7_add_55 : decode cX7_add 55 = .ok (.if_icmp .le 5, 3) := by decide +kernel
theorem dX7_add_60 : decode cX7_add 60 = .ok (.iload_n 1, 1) := by decide +kernel
theorem dX7_add_61 : decode cX7_add 61 = .ok (.aload_n 0, 1) := by decide +kernel
theorem dX7_add_62 : decode cX7_add 62 = .ok (.getfield 15, 3) := by decide +kernel
theorem dX7_add_65 : decode cX7_add 65 = .ok (.isub, 1) := by decide +kernel
theorem dX7_add_66 : decode cX7_add 66 = .ok (.istore_n 2, 1) := by decide +kernel
theorem dX7_add_67 : decode cX7_add 67 = .ok (.iload_n 2, 1) := by decide +kernel
theorem dX7_add_68 : decode cX7_add 68 = .ok (.iload_n 1, 1) := by decide +kernel
theorem dX7_add_69 : decode cX7_add 69 = .ok (.if_icmp .ge 16, 3) := by decide +kernel
theorem dX7_add_72 : decode cX7_add 72 = .ok (.aload_n 0, 1) := by decide +kernel
theorem dX7_add_73 : decode cX7_add 73 = .ok (.getfield 18, 3) := by decide +kernel
theorem dX7_add_76 : decode cX7_add 76 = .ok (.iload_n 2, 1) := by decide +kernel
theorem dX7_add_77 : decode cX7_add 77 = .ok (.iconst 0, 1) := by decide +kernel
theorem dX7_add_78 : decode cX7_add 78 = .ok (.iastore, 1) := by decide +kernel
theorem dX7_add_79 : decode cX7_add 79 = .ok (.iinc 2 1, 3) := by decide +kernel
theorem dX7_add_82 : decode cX7_add 82 = .ok (.goto (-15), 3) := by decide +kernel
theorem dX7_add_85 : decode cX7_add 85 = .ok (.aload_n 0, 1) := by decide +kernel
theorem dX7_add_86 : decode cX7_add 86 = .ok (.dup, 1) := by decide +kernel
theorem dX7_add_87 : decode cX7_add 87 = .ok (.getfield 9, 3) := by decide +kernel
theorem dX7_add_90 : decode cX7_add 90 = .ok (.iconst 1, 1) := by decide +kernel
theorem dX7_add_91 : decode cX7_add 91 = .ok (.iadd, 1) := by decide +kernel
theorem dX7_add_92 : decode cX7_add 92 = .ok (.putfield 9, 3) := by decide +kernel
theorem dX7_add_95 : decode cX7_add 95 = .ok (.aload_n 0, 1) := by decide +kernel
theorem dX7_add_96 : decode cX7_add 96 = .ok (.getfield 9, 3) := by decide +kernel
theorem dX7_add_99 : decode cX7_add 99 = .ok (.iconst 1, 1) := by decide +kernel
theorem dX7_add_100 : decode cX7_add 100 = .ok (.isub, 1) := by decide +kernel
theorem dX7_add_101 : decode cX7_add 101 = .ok (.ireturn, 1) := by decide +kernel
theorem dX7_add_58 : decode cX7_add 58 = .ok (.iconst (-1), 1) := by decide +kernel
theorem dX7_add_59 : decode cX7_add 59 = .ok (.ireturn, 1) := by decide +kernel
theorem dX7_add_21 : decode cX7_add 21 = .ok (.aload_n 0, 1) := by decide +kernel
theorem dX7_add_22 : decode cX7_add 22 = .ok (.getfield 18, 3) := by decide +kernel
theorem dX7_add_25 : decode cX7_add 25 = .ok (.arraylength, 1) := by decide +kernel
theorem dX7_add_26 : decode cX7_add 26 = .ok (.ldc 22, 2) := by decide +kernel
theorem dX7_add_28 : decode cX7_add 28 = .ok (.if_icmp .gt 21, 3) := by decide +kernel
theorem dX7_add_31 : decode cX7_add 31 = .ok (.aload_n 0, 1) := by decide +kernel
theorem dX7_add_32 : decode cX7_add 32 = .ok (.aload_n 0, 1) := by decide +kernel
theorem dX7_add_33 : decode cX7_add 33 = .ok (.getfield 18, 3) := by decide +kernel
theorem dX7_add_36 : decode cX7_add 36 = .ok (.aload_n 0, 1) := by decide +kernel
theorem dX7_add_37 : decode cX7_add 37 = .ok (.getfield 18, 3) := by decide +kernel
theorem dX7_add_40 : decode cX7_add 40 = .ok (.arraylength, 1) := by decide +kernel
theorem dX7_add_41 : decode cX7_add 41 = .ok (.iconst 2, 1) := by decide +kernel
theorem dX7_add_42 : decode cX7_add 42 = .ok (.imul, 1) := by decide +kernel
theorem dX7_has_0 : decode cX7_has 0 = .ok (.iload_n 1, 1) := by decide +kernel
theorem dX7_has_1 : decode cX7_has 1 = .ok (.ifCond .lt 27, 3) := by decide +kernel
theorem dX7_has_28 : decode cX7_has 28 = .ok (.iconst 0, 1) := by decide +kernel
theorem dX7_has_29 : decode cX7_has 29 = .ok (.ireturn, 1) := by decide +kernel
theorem dX7_has_4 : decode cX7_has 4 = .ok (.iload_n 1, 1) := by decide +kernel
theorem dX7_has_5 : decode cX7_has 5 = .ok (.aload_n 0, 1) := by decide +kernel
theorem dX7_has_6 : decode cX7_has 6 = .ok (.getfield 9, 3) := by decide +kernel
theorem dX7_has_9 : decode cX7_has 9 = .ok (.if_icmp .ge 19, 3) := by decide +kernel
theorem dX7_has_12 : decode cX7_has 12 = .ok (.iload_n 2, 1) := by decide +kernel
theorem dX7_has_13 : decode cX7_has 13 = .ok (.ifCond .lt 15, 3) := by decide +kernel
theorem dX7_has_16 : decode cX7_has 16 = .ok (.iload_n 2, 1) := by decide +kernel
theorem dX7_has_17 : decode cX7_has 17 = .ok (.aload_n 0, 1) := by decide +kernel
theorem dX7_has_18 : decode cX7_has 18 = .ok (.getfield 15, 3) := by decide +kernel
theorem dX7_has_21 : decode cX7_has 21 = .ok (.if_icmp .ge 7, 3) := by decide +kernel
theorem dX7_has_24 : decode cX7_has 24 = .ok (.iconst 1, 1) := by decide +kernel
theorem dX7_has_25 : decode cX7_has 25 = .ok (.goto 4, 3) := by decide +kernel
theorem dX7_put_0 : decode cX7_put 0 = .ok (.aload_n 0, 1) := by decide +kernel
theorem dX7_put_1 : decode cX7_put 1 = .ok (.iload_n 1, 1) := by decide +kernel
theorem dX7_put_2 : decode cX7_put 2 = .ok (.iload_n 2, 1) := by decide +kernel
theorem dX7_put_3 : decode cX7_put 3 = .ok (.invokevirtual 29, 3) := by decide +kernel
theorem dX7_put_6 : decode cX7_put 6 = .ok (.ifCond .eq 17, 3) := by decide +kernel
theorem dX7_put_23 : decode cX7_put 23 = .ok (.return_, 1) := by decide +kernel
theorem dX7_put_9 : decode cX7_put 9 = .ok (.aload_n 0, 1) := by decide +kernel
theorem dX7_put_10 : decode cX7_put 10 = .ok (.getfield 18, 3) := by decide +kernel
theorem dX7_put_13 : decode cX7_put 13 = .ok (.iload_n 1, 1) := by decide +kernel
theorem dX7_put_14 : decode cX7_put 14 = .ok (.aload_n 0, 1) := by decide +kernel
theorem dX7_put_15 : decode cX7_put 15 = .ok (.getfield 15, 3) := by decide +kernel
theorem dX7_put_18 : decode cX7_put 18 = .ok (.imul, 1) := by decide +kernel
theorem dX7_put_19 : decode cX7_put 19 = .ok (.iload_n 2, 1) := by decide +kernel
theorem dX7_put_20 : decode cX7_put 20 = .ok (.iadd, 1) := by decide +kernel
theorem dX7_put_21 : decode cX7_put 21 = .ok (.iload_n 3, 1) := by decide +kernel
theorem dX7_put_22 : decode cX7_put 22 = .ok (.iastore, 1) := by decide +kernel
theorem dX3_keepReturn_0 : decode cX3_keepReturn 0 = .ok (.aload_n 0, 1) := by decide +kernel
theorem dX3_keepReturn_1 : decode cX3_keepReturn 1 = .ok (.getfield 26, 3) := by decide +kernel
theorem dX3_keepReturn_4 : decode cX3_keepReturn 4 = .ok (.invokevirtual 215, 3) := by decide +kernel
theorem dX3_keepReturn_7 : decode cX3_keepReturn 7 = .ok (.istore_n 3, 1) := by decide +kernel
theorem dX3_keepReturn_8 : decode cX3_keepReturn 8 = .ok (.aload_n 0, 1) := by decide +kernel
theorem dX3_keepReturn_9 : decode cX3_keepReturn 9 = .ok (.getfield 26, 3) := by decide +kernel
theorem dX3_keepReturn_12 : decode cX3_keepReturn 12 = .ok (.iload_n 3, 1) := by decide +kernel
theorem dX3_keepReturn_13 : decode cX3_keepReturn 13 = .ok (.iconst 0, 1) := by decide +kernel
theorem dX3_keepReturn_14 : decode cX3_keepReturn 14 = .ok (.iload_n 1, 1) := by decide +kernel
theorem dX3_keepReturn_15 : decode cX3_keepReturn 15 = .ok (.invokevirtual 218, 3) := by decide +kernel
theorem dX3_keepReturn_18 : decode cX3_keepReturn 18 = .ok (.aload_n 0, 1) := by decide +kernel
theorem dX3_keepReturn_19 : decode cX3_keepReturn 19 = .ok (.getfield 26, 3) := by decide +kernel
theorem dX3_keepReturn_22 : decode cX3_keepReturn 22 = .ok (.iload_n 3, 1) := by decide +kernel
theorem dX3_keepReturn_23 : decode cX3_keepReturn 23 = .ok (.iconst 1, 1) := by decide +kernel
theorem dX3_keepReturn_24 : decode cX3_keepReturn 24 = .ok (.aload_n 0, 1) := by decide +kernel
theorem dX3_keepReturn_25 : decode cX3_keepReturn 25 = .ok (.getfield 49, 3) := by decide +kernel
theorem dX3_keepReturn_28 : decode cX3_keepReturn 28 = .ok (.invokevirtual 218, 3) := by decide +kernel
theorem dX3_keepReturn_31 : decode cX3_keepReturn 31 = .ok (.aload_n 0, 1) := by decide +kernel
theorem dX3_keepReturn_32 : decode cX3_keepReturn 32 = .ok (.getfield 26, 3) := by decide +kernel
theorem dX3_keepReturn_35 : decode cX3_keepReturn 35 = .ok (.iload_n 3, 1) := by decide +kernel
theorem dX3_keepReturn_36 : decode cX3_keepReturn 36 = .ok (.iconst 2, 1) := by decide +kernel
theorem dX3_keepReturn_37 : decode cX3_keepReturn 37 = .ok (.iload_n 2, 1) := by decide +kernel
theorem dX3_keepReturn_38 : decode cX3_keepReturn 38 = .ok (.invokevirtual 218, 3) := by decide +kernel
theorem dX3_keepReturn_41 : decode cX3_keepReturn 41 = .ok (.aload_n 0, 1) := by decide +kernel
theorem dX3_keepReturn_42 : decode cX3_keepReturn 42 = .ok (.getfield 26, 3) := by decide +kernel
theorem dX3_keepReturn_45 : decode cX3_keepReturn 45 = .ok (.iload_n 3, 1) := by decide +kernel
theorem dX3_keepReturn_46 : decode cX3_keepReturn 46 = .ok (.iconst 3, 1) := by decide +kernel
theorem dX3_keepReturn_47 : decode cX3_keepReturn 47 = .ok (.aload_n 0, 1) := by decide +kernel
theorem dX3_keepReturn_48 : decode cX3_keepReturn 48 = .ok (.getfield 55, 3) := by decide +kernel
theorem dX3_keepReturn_51 : decode cX3_keepReturn 51 = .ok (.invokevirtual 218, 3) := by decide +kernel
theorem dX3_keepReturn_54 : decode cX3_keepReturn 54 = .ok (.aload_n 0, 1) := by decide +kernel
theorem dX3_keepReturn_55 : decode cX3_keepReturn 55 = .ok (.getfield 26, 3) := by decide +kernel
theorem dX3_keepReturn_58 : decode cX3_keepReturn 58 = .ok (.iload_n 3, 1) := by decide +kernel
theorem dX3_keepReturn_59 : decode cX3_keepReturn 59 = .ok (.iconst 4, 1) := by decide +kernel
theorem dX3_keepReturn_60 : decode cX3_keepReturn 60 = .ok (.aload_n 0, 1) := by decide +kernel
theorem dX3_keepReturn_61 : decode cX3_keepReturn 61 = .ok (.getfield 29, 3) := by decide +kernel
theorem dX3_keepReturn_64 : decode cX3_keepReturn 64 = .ok (.getfield 200, 3) := by decide +kernel
theorem dX3_keepReturn_67 : decode cX3_keepReturn 67 = .ok (.invokevirtual 218, 3) := by decide +kernel
theorem dX3_keepReturn_70 : decode cX3_keepReturn 70 = .ok (.return_, 1) := by decide +kernel
theorem dX7_at_0 : decode cX7_at 0 = .ok (.aload_n 0, 1) := by decide +kernel
theorem dX7_at_1 : decode cX7_at 1 = .ok (.iload_n 1, 1) := by decide +kernel
theorem dX7_at_2 : decode cX7_at 2 = .ok (.iload_n 2, 1) := by decide +kernel
theorem dX7_at_3 : decode cX7_at 3 = .ok (.invokevirtual 29, 3) := by decide +kernel
theorem dX7_at_6 : decode cX7_at 6 = .ok (.ifCond .eq 19, 3) := by decide +kernel
theorem dX7_at_25 : decode cX7_at 25 = .ok (.iconst (-1), 1) := by decide +kernel
theorem dX7_at_26 : decode cX7_at 26 = .ok (.ireturn, 1) := by decide +kernel
theorem dX7_at_9 : decode cX7_at 9 = .ok (.aload_n 0, 1) := by decide +kernel
theorem dX7_at_10 : decode cX7_at 10 = .ok (.getfield 18, 3) := by decide +kernel
theorem dX7_at_13 : decode cX7_at 13 = .ok (.iload_n 1, 1) := by decide +kernel
theorem dX7_at_14 : decode cX7_at 14 = .ok (.aload_n 0, 1) := by decide +kernel
theorem dX7_at_15 : decode cX7_at 15 = .ok (.getfield 15, 3) := by decide +kernel
theorem dX7_at_18 : decode cX7_at 18 = .ok (.imul, 1) := by decide +kernel
theorem dX7_at_19 : decode cX7_at 19 = .ok (.iload_n 2, 1) := by decide +kernel
theorem dX7_at_20 : decode cX7_at 20 = .ok (.iadd, 1) := by decide +kernel
theorem dX7_at_21 : decode cX7_at 21 = .ok (.iaload, 1) := by decide +kernel
theorem dX7_at_22 : decode cX7_at 22 = .ok (.goto 4, 3) := by decide +kernel
theorem dX3_layPlaces_0 : decode cX3_layPlaces 0 = .ok (.aload_n 0, 1) := by decide +kernel
theorem dX3_layPlaces_1 : decode cX3_layPlaces 1 = .ok (.getfield 14, 3) := by decide +kernel
theorem dX3_layPlaces_4 : decode cX3_layPlaces 4 = .ok (.getfield 200, 3) := by decide +kernel
theorem dX3_layPlaces_7 : decode cX3_layPlaces 7 = .ok (.istore_n 2, 1) := by decide +kernel
theorem dX3_layPlaces_8 : decode cX3_layPlaces 8 = .ok (.aload_n 0, 1) := by decide +kernel
theorem dX3_layPlaces_9 : decode cX3_layPlaces 9 = .ok (.getfield 62, 3) := by decide +kernel
theorem dX3_layPlaces_12 : decode cX3_layPlaces 12 = .ok (.getfield 281, 3) := by decide +kernel
theorem dX3_layPlaces_15 : decode cX3_layPlaces 15 = .ok (.iload_n 1, 1) := by decide +kernel
theorem dX3_layPlaces_16 : decode cX3_layPlaces 16 = .ok (.iaload, 1) := by decide +kernel
theorem dX3_layPlaces_17 : decode cX3_layPlaces 17 = .ok (.istore_n 3, 1) := by decide +kernel
theorem dX3_layPlaces_18 : decode cX3_layPlaces 18 = .ok (.aload_n 0, 1) := by decide +kernel
theorem dX3_layPlaces_19 : decode cX3_layPlaces 19 = .ok (.getfield 62, 3) := by decide +kernel
theorem dX3_layPlaces_22 : decode cX3_layPlaces 22 = .ok (.getfield 261, 3) := by decide +kernel
theorem dX3_layPlaces_25 : decode cX3_layPlaces 25 = .ok (.iload_n 1, 1) := by decide +kernel
theorem dX3_layPlaces_26 : decode cX3_layPlaces 26 = .ok (.iaload, 1) := by decide +kernel
theorem dX3_layPlaces_27 : decode cX3_layPlaces 27 = .ok (.istore 4, 2) := by decide +kernel
theorem dX3_layPlaces_29 : decode cX3_layPlaces 29 = .ok (.aload_n 0, 1) := by decide +kernel
theorem dX3_layPlaces_30 : decode cX3_layPlaces 30 = .ok (.getfield 20, 3) := by decide +kernel
theorem dX3_layPlaces_33 : decode cX3_layPlaces 33 = .ok (.getfield 200, 3) := by decide +kernel
theorem dX3_layPlaces_36 : decode cX3_layPlaces 36 = .ok (.iload 4, 2) := by decide +kernel
theorem dX3_layPlaces_38 : decode cX3_layPlaces 38 = .ok (.isub, 1) := by decide +kernel
theorem dX3_layPlaces_39 : decode cX3_layPlaces 39 = .ok (.istore 5, 2) := by decide +kernel
theorem dX3_layPlaces_41 : decode cX3_layPlaces 41 = .ok (.iload_n 2, 1) := by decide +kernel
theorem dX3_layPlaces_42 : decode cX3_layPlaces 42 = .ok (.iload_n 3, 1) := by decide +kernel
theorem dX3_layPlaces_43 : decode cX3_layPlaces 43 = .ok (.iadd, 1) := by decide +kernel
theorem dX3_layPlaces_44 : decode cX3_layPlaces 44 = .ok (.istore 6, 2) := by decide +kernel
theorem dX3_layPlaces_46 : decode cX3_layPlaces 46 = .ok (.iconst 0, 1) := by decide +kernel
theorem dX3_layPlaces_47 : decode cX3_layPlaces 47 = .ok (.istore 7, 2) := by decide +kernel
theorem dX3_layPlaces_49 : decode cX3_layPlaces 49 = .ok (.iload 7, 2) := by decide +kernel
theorem dX3_layPlaces_51 : decode cX3_layPlaces 51 = .ok (.iload_n 3, 1) := by decide +kernel
theorem dX3_layPlaces_52 : decode cX3_layPlaces 52 = .ok (.if_icmp .ge 167, 3) := by decide +kernel
theorem dX3_layPlaces_55 : decode cX3_layPlaces 55 = .ok (.aload_n 0, 1) := by decide +kernel
theorem dX3_layPlaces_56 : decode cX3_layPlaces 56 = .ok (.getfield 14, 3) := by decide +kernel
theorem dX3_layPlaces_59 : decode cX3_layPlaces 59 = .ok (.invokevirtual 215, 3) := by decide +kernel
theorem dX3_layPlaces_62 : decode cX3_layPlaces 62 = .ok (.istore 8, 2) := by decide +kernel
theorem dX3_layPlaces_64 : decode cX3_layPlaces 64 = .ok (.aload_n 0, 1) := by decide +kernel
theorem dX3_layPlaces_65 : decode cX3_layPlaces 65 = .ok (.getfield 62, 3) := by decide +kernel
theorem dX3_layPlaces_68 : decode cX3_layPlaces 68 = .ok (.getfield 298, 3) := by decide +kernel
theorem dX3_layPlaces_71 : decode cX3_layPlaces 71 = .ok (.iload_n 1, 1) := by decide +kernel
theorem dX3_layPlaces_72 : decode cX3_layPlaces 72 = .ok (.bipush 10, 2) := by decide +kernel
theorem dX3_layPlaces_74 : decode cX3_layPlaces 74 = .ok (.imul, 1) := by decide +kernel
theorem dX3_layPlaces_75 : decode cX3_layPlaces 75 = .ok (.iload 7, 2) := by decide +kernel
theorem dX3_layPlaces_77 : decode cX3_layPlaces 77 = .ok (.iadd, 1) := by decide +kernel
theorem dX3_layPlaces_78 : decode cX3_layPlaces 78 = .ok (.iaload, 1) := by decide +kernel
theorem dX3_layPlaces_79 : decode cX3_layPlaces 79 = .ok (.istore 9, 2) := by decide +kernel
theorem dX3_layPlaces_81 : decode cX3_layPlaces 81 = .ok (.iload 7, 2) := by decide +kernel
theorem dX3_layPlaces_83 : decode cX3_layPlaces 83 = .ok (.iload 4, 2) := by decide +kernel
theorem dX3_layPlaces_85 : decode cX3_layPlaces 85 = .ok (.if_icmp .ge 52, 3) := by decide +kernel
theorem dX3_layPlaces_137 : decode cX3_layPlaces 137 = .ok (.iload 9, 2) := by decide +kernel
theorem dX3_layPlaces_139 : decode cX3_layPlaces 139 = .ok (.bipush 7, 2) := by decide +kernel
theorem dX3_layPlaces_141 : decode cX3_layPlaces 141 = .ok (.if_icmp .ne 54, 3) := by decide +kernel
theorem dX3_layPlaces_195 : decode cX3_layPlaces 195 = .ok (.iload 9, 2) := by decide +kernel
theorem dX3_layPlaces_197 : decode cX3_layPlaces 197 = .ok (.bipush 8, 2) := by decide +kernel
theorem dX3_layPlaces_199 : decode cX3_layPlaces 199 = .ok (.if_icmp .ne 14, 3) := by decide +kernel
theorem dX3_layPlaces_213 : decode cX3_layPlaces 213 = .ok (.iinc 7 1, 3) := by decide +kernel
theorem dX3_layPlaces_216 : decode cX3_layPlaces 216 = .ok (.goto (-167), 3) := by decide +kernel
theorem dX3_layPlaces_202 : decode cX3_layPlaces 202 = .ok (.aload_n 0, 1) := by decide +kernel
theorem dX3_layPlaces_203 : decode cX3_layPlaces 203 = .ok (.getfield 14, 3) := by decide +kernel
theorem dX3_layPlaces_206 : decode cX3_layPlaces 206 = .ok (.iload 8, 2) := by decide +kernel
theorem dX3_layPlaces_208 : decode cX3_layPlaces 208 = .ok (.iconst 0, 1) := by decide +kernel
theorem dX3_layPlaces_209 : decode cX3_layPlaces 209 = .ok (.iconst (-1), 1) := by decide +kernel
theorem dX3_layPlaces_210 : decode cX3_layPlaces 210 = .ok (.invokevirtual 218, 3) := by decide +kernel
theorem dX3_layPlaces_144 : decode cX3_layPlaces 144 = .ok (.aload_n 0, 1) := by decide +kernel
theorem dX3_layPlaces_145 : decode cX3_layPlaces 145 = .ok (.getfield 62, 3) := by decide +kernel
theorem dX3_layPlaces_148 : decode cX3_layPlaces 148 = .ok (.getfield 301, 3) := by decide +kernel
theorem dX3_layPlaces_151 : decode cX3_layPlaces 151 = .ok (.iload_n 1, 1) := by decide +kernel
theorem dX3_layPlaces_152 : decode cX3_layPlaces 152 = .ok (.bipush 10, 2) := by decide +kernel
theorem dX3_layPlaces_154 : decode cX3_layPlaces 154 = .ok (.imul, 1) := by decide +kernel
theorem dX3_layPlaces_155 : decode cX3_layPlaces 155 = .ok (.iload 7, 2) := by decide +kernel
theorem dX3_layPlaces_157 : decode cX3_layPlaces 157 = .ok (.iadd, 1) := by decide +kernel
theorem dX3_layPlaces_158 : decode cX3_layPlaces 158 = .ok (.iaload, 1) := by decide +kernel
theorem dX3_layPlaces_159 : decode cX3_layPlaces 159 = .ok (.istore 10, 2) := by decide +kernel
theorem dX3_layPlaces_161 : decode cX3_layPlaces 161 = .ok (.aload_n 0, 1) := by decide +kernel
theorem dX3_layPlaces_162 : decode cX3_layPlaces 162 = .ok (.getfield 14, 3) := by decide +kernel
theorem dX3_layPlaces_165 : decode cX3_layPlaces 165 = .ok (.iload 8, 2) := by decide +kernel
theorem dX3_layPlaces_167 : decode cX3_layPlaces 167 = .ok (.iconst 0, 1) := by decide +kernel
theorem dX3_layPlaces_168 : decode cX3_layPlaces 168 = .ok (.iload 6, 2) := by decide +kernel
theorem dX3_layPlaces_170 : decode cX3_layPlaces 170 = .ok (.invokevirtual 218, 3) := by decide +kernel
theorem dX3_layPlaces_173 : decode cX3_layPlaces 173 = .ok (.aload_n 0, 1) := by decide +kernel
theorem dX3_layPlaces_174 : decode cX3_layPlaces 174 = .ok (.getfield 14, 3) := by decide +kernel
theorem dX3_layPlaces_177 : decode cX3_layPlaces 177 = .ok (.iload 8, 2) := by decide +kernel
theorem dX3_layPlaces_179 : decode cX3_layPlaces 179 = .ok (.iconst 1, 1) := by decide +kernel
theorem dX3_layPlaces_180 : decode cX3_layPlaces 180 = .ok (.iload 10, 2) := by decide +kernel
theorem dX3_layPlaces_182 : decode cX3_layPlaces 182 = .ok (.invokevirtual 218, 3) := by decide +kernel
theorem dX3_layPlaces_185 : decode cX3_layPlaces 185 = .ok (.iload 6, 2) := by decide +kernel
theorem dX3_layPlaces_187 : decode cX3_layPlaces 187 = .ok (.iload 10, 2) := by decide +kernel
theorem dX3_layPlaces_189 : decode cX3_layPlaces 189 = .ok (.iadd, 1) := by decide +kernel
theorem dX3_layPlaces_190 : decode cX3_layPlaces 190 = .ok (.istore 6, 2) := by decide +kernel
theorem dX3_layPlaces_192 : decode cX3_layPlaces 192 = .ok (.goto 21, 3) := by decide +kernel
theorem dX3_layPlaces_88 : decode cX3_layPlaces 88 = .ok (.aload_n 0, 1) := by decide +kernel
theorem dX3_layPlaces_89 : decode cX3_layPlaces 89 = .ok (.getfield 14, 3) := by decide +kernel
theorem dX3_layPlaces_92 : decode cX3_layPlaces 92 = .ok (.iload 8, 2) := by decide +kernel
theorem dX3_layPlaces_94 : decode cX3_layPlaces 94 = .ok (.iconst 0, 1) := by decide +kernel
theorem dX3_layPlaces_95 : decode cX3_layPlaces 95 = .ok (.aload_n 0, 1) := by decide +kernel
theorem dX3_layPlaces_96 : decode cX3_layPlaces 96 = .ok (.getfield 20, 3) := by decide +kernel
theorem dX3_layPlaces_99 : decode cX3_layPlaces 99 = .ok (.iload 5, 2) := by decide +kernel
theorem dX3_layPlaces_101 : decode cX3_layPlaces 101 = .ok (.iload 7, 2) := by decide +kernel
theorem dX3_layPlaces_103 : decode cX3_layPlaces 103 = .ok (.iadd, 1) := by decide +kernel
theorem dX3_layPlaces_104 : decode cX3_layPlaces 104 = .ok (.iconst 0, 1) := by decide +kernel
theorem dX3_layPlaces_105 : decode cX3_layPlaces 105 = .ok (.invokevirtual 221, 3) := by decide +kernel
theorem dX3_layPlaces_108 : decode cX3_layPlaces 108 = .ok (.invokevirtual 218, 3) := by decide +kernel
theorem dX3_layPlaces_111 : decode cX3_layPlaces 111 = .ok (.aload_n 0, 1) := by decide +kernel
theorem dX3_layPlaces_112 : decode cX3_layPlaces 112 = .ok (.getfield 14, 3) := by decide +kernel
theorem dX3_layPlaces_115 : decode cX3_layPlaces 115 = .ok (.iload 8, 2) := by decide +kernel
theorem dX3_layPlaces_117 : decode cX3_layPlaces 117 = .ok (.iconst 1, 1) := by decide +kernel
theorem dX3_layPlaces_118 : decode cX3_layPlaces 118 = .ok (.aload_n 0, 1) := by decide +kernel
theorem dX3_layPlaces_119 : decode cX3_layPlaces 119 = .ok (.getfield 20, 3) := by decide +kernel
theorem dX3_layPlaces_122 : decode cX3_layPlaces 122 = .ok (.iload 5, 2) := by decide +kernel
theorem dX3_layPlaces_124 : decode cX3_layPlaces 124 = .ok (.iload 7, 2) := by decide +kernel
theorem dX3_layPlaces_126 : decode cX3_layPlaces 126 = .ok (.iadd, 1) := by decide +kernel
theorem dX3_layPlaces_127 : decode cX3_layPlaces 127 = .ok (.iconst 1, 1) := by decide +kernel
theorem dX3_layPlaces_128 : decode cX3_layPlaces 128 = .ok (.invokevirtual 221, 3) := by decide +kernel
theorem dX3_layPlaces_131 : decode cX3_layPlaces 131 = .ok (.invokevirtual 218, 3) := by decide +kernel
theorem dX3_layPlaces_134 : decode cX3_layPlaces 134 = .ok (.goto 79, 3) := by decide +kernel
theorem dX3_layPlaces_219 : decode cX3_layPlaces 219 = .ok (.aload_n 0, 1) := by decide +kernel
theorem dX3_layPlaces_220 : decode cX3_layPlaces 220 = .ok (.getfield 20, 3) := by decide +kernel
theorem dX3_layPlaces_223 : decode cX3_layPlaces 223 = .ok (.iload 5, 2) := by decide +kernel
theorem dX3_layPlaces_225 : decode cX3_layPlaces 225 = .ok (.invokevirtual 111, 3) := by decide +kernel
theorem dX3_layPlaces_228 : decode cX3_layPlaces 228 = .ok (.aload_n 0, 1) := by decide +kernel
theorem dX3_layPlaces_229 : decode cX3_layPlaces 229 = .ok (.getfield 14, 3) := by decide +kernel
theorem dX3_layPlaces_232 : decode cX3_layPlaces 232 = .ok (.getfield 200, 3) := by decide +kernel
theorem dX3_layPlaces_235 : decode cX3_layPlaces 235 = .ok (.istore 7, 2) := by decide +kernel
theorem dX3_layPlaces_237 : decode cX3_layPlaces 237 = .ok (.iload 7, 2) := by decide +kernel
theorem dX3_layPlaces_239 : decode cX3_layPlaces 239 = .ok (.iload 6, 2) := by decide +kernel
theorem dX3_layPlaces_241 : decode cX3_layPlaces 241 = .ok (.if_icmp .ge 17, 3) := by decide +kernel
theorem dX3_layPlaces_244 : decode cX3_layPlaces 244 = .ok (.aload_n 0, 1) := by decide +kernel
theorem dX3_layPlaces_245 : decode cX3_layPlaces 245 = .ok (.getfield 14, 3) := by decide +kernel
theorem dX3_layPlaces_248 : decode cX3_layPlaces 248 = .ok (.invokevirtual 215, 3) := by decide +kernel
theorem dX3_layPlaces_251 : decode cX3_layPlaces 251 = .ok (.pop, 1) := by decide +kernel
theorem dX3_layPlaces_252 : decode cX3_layPlaces 252 = .ok (.iinc 7 1, 3) := by decide +kernel
theorem dX3_layPlaces_255 : decode cX3_layPlaces 255 = .ok (.goto (-18), 3) := by decide +kernel
theorem dX3_layPlaces_258 : decode cX3_layPlaces 258 = .ok (.return_, 1) := by decide +kernel
theorem dX3_call_0 : decode cX3_call 0 = .ok (.aload_n 0, 1) := by decide +kernel
theorem dX3_call_1 : decode cX3_call 1 = .ok (.dup, 1) := by decide +kernel
theorem dX3_call_2 : decode cX3_call 2 = .ok (.getfield 55, 3) := by decide +kernel
theorem dX3_call_5 : decode cX3_call 5 = .ok (.iconst 1, 1) := by decide +kernel
theorem dX3_call_6 : decode cX3_call 6 = .ok (.iadd, 1) := by decide +kernel
theorem dX3_call_7 : decode cX3_call 7 = .ok (.putfield 55, 3) := by decide +kernel
theorem dX3_call_10 : decode cX3_call 10 = .ok (.aload_n 0, 1) := by decide +kernel
theorem dX3_call_11 : decode cX3_call 11 = .ok (.aload_n 0, 1) := by decide +kernel
theorem dX3_call_12 : decode cX3_call 12 = .ok (.getfield 26, 3) := by decide +kernel
theorem dX3_call_15 : decode cX3_call 15 = .ok (.aload_n 0, 1) := by decide +kernel
theorem dX3_call_16 : decode cX3_call 16 = .ok (.getfield 26, 3) := by decide +kernel
theorem dX3_call_19 : decode cX3_call 19 = .ok (.getfield 200, 3) := by decide +kernel
theorem dX3_call_22 : decode cX3_call 22 = .ok (.iconst 1, 1) := by decide +kernel
theorem dX3_call_23 : decode cX3_call 23 = .ok (.isub, 1) := by decide +kernel
theorem dX3_call_24 : decode cX3_call 24 = .ok (.iconst 2, 1) := by decide +kernel
theorem dX3_call_25 : decode cX3_call 25 = .ok (.invokevirtual 221, 3) := by decide +kernel
theorem dX3_call_28 : decode cX3_call 28 = .ok (.iconst 1, 1) := by decide +kernel
theorem dX3_call_29 : decode cX3_call 29 = .ok (.iadd, 1) := by decide +kernel
theorem dX3_call_30 : decode cX3_call 30 = .ok (.putfield 52, 3) := by decide +kernel
theorem dX3_call_33 : decode cX3_call 33 = .ok (.aload_n 0, 1) := by decide +kernel
theorem dX3_call_34 : decode cX3_call 34 = .ok (.getfield 35, 3) := by decide +kernel
theorem dX3_call_37 : decode cX3_call 37 = .ok (.dup, 1) := by decide +kernel
theorem dX3_call_38 : decode cX3_call 38 = .ok (.getfield 267, 3) := by decide +kernel
theorem dX3_call_41 : decode cX3_call 41 = .ok (.iconst 1, 1) := by decide +kernel
theorem dX3_call_42 : decode cX3_call 42 = .ok (.iadd, 1) := by decide +kernel
theorem dX3_call_43 : decode cX3_call 43 = .ok (.putfield 267, 3) := by decide +kernel
theorem dX3_call_46 : decode cX3_call 46 = .ok (.aload_n 0, 1) := by decide +kernel
theorem dX3_call_47 : decode cX3_call 47 = .ok (.getfield 35, 3) := by decide +kernel
theorem dX3_call_50 : decode cX3_call 50 = .ok (.dup, 1) := by decide +kernel
theorem dX3_call_51 : decode cX3_call 51 = .ok (.getfield 270, 3) := by decide +kernel
theorem dX3_call_54 : decode cX3_call 54 = .ok (.aload_n 0, 1) := by decide +kernel
theorem dX3_call_55 : decode cX3_call 55 = .ok (.getfield 39, 3) := by decide +kernel
theorem dX3_call_58 : decode cX3_call 58 = .ok (.iconst 4, 1) := by decide +kernel
theorem dX3_call_59 : decode cX3_call 59 = .ok (.iand, 1) := by decide +kernel
theorem dX3_call_60 : decode cX3_call 60 = .ok (.ifCond .eq 18, 3) := by decide +kernel
theorem dX3_call_78 : decode cX3_call 78 = .ok (.aload_n 0, 1) := by decide +kernel
theorem dX3_call_79 : decode cX3_call 79 = .ok (.getfield 62, 3) := by decide +kernel
theorem dX3_call_82 : decode cX3_call 82 = .ok (.getfield 281, 3) := by decide +kernel
theorem dX3_call_85 : decode cX3_call 85 = .ok (.iload_n 1, 1) := by decide +kernel
theorem dX3_call_86 : decode cX3_call 86 = .ok (.iaload, 1) := by decide +kernel
theorem dX3_call_87 : decode cX3_call 87 = .ok (.iadd, 1) := by decide +kernel
theorem dX3_call_88 : decode cX3_call 88 = .ok (.putfield 270, 3) := by decide +kernel
theorem dX3_call_91 : decode cX3_call 91 = .ok (.aload_n 0, 1) := by decide +kernel
theorem dX3_call_92 : decode cX3_call 92 = .ok (.getfield 35, 3) := by decide +kernel
theorem dX3_call_95 : decode cX3_call 95 = .ok (.aload_n 0, 1) := by decide +kernel
theorem dX3_call_96 : decode cX3_call 96 = .ok (.getfield 35, 3) := by decide +kernel
theorem dX3_call_99 : decode cX3_call 99 = .ok (.getfield 284, 3) := by decide +kernel
theorem dX3_call_102 : decode cX3_call 102 = .ok (.aload_n 0, 1) := by decide +kernel
theorem dX3_call_103 : decode cX3_call 103 = .ok (.getfield 52, 3) := by decide +kernel
theorem dX3_call_106 : decode cX3_call 106 = .ok (.invokestatic 287, 3) := by decide +kernel
theorem dX3_call_109 : decode cX3_call 109 = .ok (.putfield 284, 3) := by decide +kernel
theorem dX3_call_112 : decode cX3_call 112 = .ok (.aload_n 0, 1) := by decide +kernel
theorem dX3_call_113 : decode cX3_call 113 = .ok (.getfield 35, 3) := by decide +kernel
theorem dX3_call_116 : decode cX3_call 116 = .ok (.aload_n 0, 1) := by decide +kernel
theorem dX3_call_117 : decode cX3_call 117 = .ok (.getfield 35, 3) := by decide +kernel
theorem dX3_call_120 : decode cX3_call 120 = .ok (.getfield 292, 3) := by decide +kernel
theorem dX3_call_123 : decode cX3_call 123 = .ok (.aload_n 0, 1) := by decide +kernel
theorem dX3_call_124 : decode cX3_call 124 = .ok (.getfield 55, 3) := by decide +kernel
theorem dX3_call_127 : decode cX3_call 127 = .ok (.invokestatic 287, 3) := by decide +kernel
theorem dX3_call_130 : decode cX3_call 130 = .ok (.putfield 292, 3) := by decide +kernel
theorem dX3_call_133 : decode cX3_call 133 = .ok (.aload_n 0, 1) := by decide +kernel
theorem dX3_call_134 : decode cX3_call 134 = .ok (.aload_n 0, 1) := by decide +kernel
theorem dX3_call_135 : decode cX3_call 135 = .ok (.getfield 23, 3) := by decide +kernel
theorem dX3_call_138 : decode cX3_call 138 = .ok (.invokevirtual 215, 3) := by decide +kernel
theorem dX3_call_141 : decode cX3_call 141 = .ok (.putfield 49, 3) := by decide +kernel
theorem dX3_call_144 : decode cX3_call 144 = .ok (.aload_n 0, 1) := by decide +kernel
theorem dX3_call_145 : decode cX3_call 145 = .ok (.getfield 23, 3) := by decide +kernel
theorem dX3_call_148 : decode cX3_call 148 = .ok (.aload_n 0, 1) := by decide +kernel
theorem dX3_call_149 : decode cX3_call 149 = .ok (.getfield 49, 3) := by decide +kernel
theorem dX3_call_152 : decode cX3_call 152 = .ok (.iconst 0, 1) := by decide +kernel
theorem dX3_call_153 : decode cX3_call 153 = .ok (.iload_n 1, 1) := by decide +kernel
theorem dX3_call_154 : decode cX3_call 154 = .ok (.invokevirtual 218, 3) := by decide +kernel
theorem dX3_call_157 : decode cX3_call 157 = .ok (.aload_n 0, 1) := by decide +kernel
theorem dX3_call_158 : decode cX3_call 158 = .ok (.getfield 23, 3) := by decide +kernel
theorem dX3_call_161 : decode cX3_call 161 = .ok (.aload_n 0, 1) := by decide +kernel
theorem dX3_call_162 : decode cX3_call 162 = .ok (.getfield 49, 3) := by decide +kernel
theorem dX3_call_165 : decode cX3_call 165 = .ok (.iconst 1, 1) := by decide +kernel
theorem dX3_call_166 : decode cX3_call 166 = .ok (.iload_n 2, 1) := by decide +kernel
theorem dX3_call_167 : decode cX3_call 167 = .ok (.invokevirtual 218, 3) := by decide +kernel
theorem dX3_call_170 : decode cX3_call 170 = .ok (.aload_n 0, 1) := by decide +kernel
theorem dX3_call_171 : decode cX3_call 171 = .ok (.getfield 23, 3) := by decide +kernel
theorem dX3_call_174 : decode cX3_call 174 = .ok (.aload_n 0, 1) := by decide +kernel
theorem dX3_call_175 : decode cX3_call 175 = .ok (.getfield 49, 3) := by decide +kernel
theorem dX3_call_178 : decode cX3_call 178 = .ok (.iconst 2, 1) := by decide +kernel
theorem dX3_call_179 : decode cX3_call 179 = .ok (.aload_n 0, 1) := by decide +kernel
theorem dX3_call_180 : decode cX3_call 180 = .ok (.getfield 14, 3) := by decide +kernel
theorem dX3_call_183 : decode cX3_call 183 = .ok (.getfield 200, 3) := by decide +kernel
theorem dX3_call_186 : decode cX3_call 186 = .ok (.invokevirtual 218, 3) := by decide +kernel
theorem dX3_call_189 : decode cX3_call 189 = .ok (.aload_n 0, 1) := by decide +kernel
theorem dX3_call_190 : decode cX3_call 190 = .ok (.iload_n 1, 1) := by decide +kernel
theorem dX3_call_191 : decode cX3_call 191 = .ok (.invokevirtual 295, 3) := by decide +kernel
theorem dX3_call_194 : decode cX3_call 194 = .ok (.aload_n 0, 1) := by decide +kernel
theorem dX3_call_195 : decode cX3_call 195 = .ok (.aload_n 0, 1) := by decide +kernel
theorem dX3_call_196 : decode cX3_call 196 = .ok (.getfield 74, 3) := by decide +kernel
theorem dX3_call_199 : decode cX3_call 199 = .ok (.getfield 237, 3) := by decide +kernel
theorem dX3_call_202 : decode cX3_call 202 = .ok (.iload_n 1, 1) := by decide +kernel
theorem dX3_call_203 : decode cX3_call 203 = .ok (.iaload, 1) := by decide +kernel
theorem dX3_call_204 : decode cX3_call 204 = .ok (.putfield 46, 3) := by decide +kernel
theorem dX3_call_207 : decode cX3_call 207 = .ok (.return_, 1) := by decide +kernel
theorem dX3_call_63 : decode cX3_call 63 = .ok (.aload_n 0, 1) := by decide +kernel
theorem dX3_call_64 : decode cX3_call 64 = .ok (.getfield 70, 3) := by decide +kernel
theorem dX3_call_67 : decode cX3_call 67 = .ok (.getfield 273, 3) := by decide +kernel
theorem dX3_call_70 : decode cX3_call 70 = .ok (.iload_n 1, 1) := by decide +kernel
theorem dX3_call_71 : decode cX3_call 71 = .ok (.iaload, 1) := by decide +kernel
theorem dX3_call_72 : decode cX3_call 72 = .ok (.invokestatic 276, 3) := by decide +kernel
theorem dX3_call_75 : decode cX3_call 75 = .ok (.goto 12, 3) := by decide +kernel
theorem dX3_trap_0 : decode cX3_trap 0 = .ok (.aload_n 0, 1) := by decide +kernel
theorem dX3_trap_1 : decode cX3_trap 1 = .ok (.getfield 35, 3) := by decide +kernel
theorem dX3_trap_4 : decode cX3_trap 4 = .ok (.iload_n 1, 1) := by decide +kernel
theorem dX3_trap_5 : decode cX3_trap 5 = .ok (.putfield 126, 3) := by decide +kernel
theorem dX3_trap_8 : decode cX3_trap 8 = .ok (.aload_n 0, 1) := by decide +kernel
theorem dX3_trap_9 : decode cX3_trap 9 = .ok (.getfield 35, 3) := by decide +kernel
theorem dX3_trap_12 : decode cX3_trap 12 = .ok (.iload_n 2, 1) := by decide +kernel
theorem dX3_trap_13 : decode cX3_trap 13 = .ok (.putfield 128, 3) := by decide +kernel
theorem dX3_trap_16 : decode cX3_trap 16 = .ok (.aload_n 0, 1) := by decide +kernel
theorem dX3_trap_17 : decode cX3_trap 17 = .ok (.getfield 35, 3) := by decide +kernel
theorem dX3_trap_20 : decode cX3_trap 20 = .ok (.aload_n 0, 1) := by decide +kernel
theorem dX3_trap_21 : decode cX3_trap 21 = .ok (.getfield 70, 3) := by decide +kernel
theorem dX3_trap_24 : decode cX3_trap 24 = .ok (.getfield 131, 3) := by decide +kernel
theorem dX3_trap_27 : decode cX3_trap 27 = .ok (.iload_n 2, 1) := by decide +kernel
theorem dX3_trap_28 : decode cX3_trap 28 = .ok (.iaload, 1) := by decide +kernel
theorem dX3_trap_29 : decode cX3_trap 29 = .ok (.putfield 136, 3) := by decide +kernel
theorem dX3_trap_32 : decode cX3_trap 32 = .ok (.aload_n 0, 1) := by decide +kernel
theorem dX3_trap_33 : decode cX3_trap 33 = .ok (.iconst 1, 1) := by decide +kernel
theorem dX3_trap_34 : decode cX3_trap 34 = .ok (.putfield 58, 3) := by decide +kernel
theorem dX3_trap_37 : decode cX3_trap 37 = .ok (.return_, 1) := by decide +kernel
theorem dX3_begin_0 : decode cX3_begin 0 = .ok (.aload_n 0, 1) := by decide +kernel
theorem dX3_begin_1 : decode cX3_begin 1 = .ok (.getfield 74, 3) := by decide +kernel
theorem dX3_begin_4 : decode cX3_begin 4 = .ok (.getfield 114, 3) := by decide +kernel
theorem dX3_begin_7 : decode cX3_begin 7 = .ok (.iload_n 1, 1) := by decide +kernel
theorem dX3_begin_8 : decode cX3_begin 8 = .ok (.iaload, 1) := by decide +kernel
theorem dX3_begin_9 : decode cX3_begin 9 = .ok (.istore_n 3, 1) := by decide +kernel
theorem dX3_begin_10 : decode cX3_begin 10 = .ok (.iconst 0, 1) := by decide +kernel
theorem dX3_begin_11 : decode cX3_begin 11 = .ok (.istore 4, 2) := by decide +kernel
theorem dX3_begin_13 : decode cX3_begin 13 = .ok (.iload 4, 2) := by decide +kernel
theorem dX3_begin_15 : decode cX3_begin 15 = .ok (.bipush 110, 2) := by decide +kernel
theorem dX3_begin_17 : decode cX3_begin 17 = .ok (.if_icmp .ge 57, 3) := by decide +kernel
theorem dX3_begin_20 : decode cX3_begin 20 = .ok (.iload_n 3, 1) := by decide +kernel
theorem dX3_begin_21 : decode cX3_begin 21 = .ok (.iconst (-1), 1) := by decide +kernel
theorem dX3_begin_22 : decode cX3_begin 22 = .ok (.if_icmp .eq 52, 3) := by decide +kernel
theorem dX3_begin_25 : decode cX3_begin 25 = .ok (.aload_n 0, 1) := by decide +kernel
theorem dX3_begin_26 : decode cX3_begin 26 = .ok (.getfield 35, 3) := by decide +kernel
theorem dX3_begin_29 : decode cX3_begin 29 = .ok (.getfield 117, 3) := by decide +kernel
theorem dX3_begin_32 : decode cX3_begin 32 = .ok (.iload_n 2, 1) := by decide +kernel
theorem dX3_begin_33 : decode cX3_begin 33 = .ok (.if_icmp .lt 12, 3) := by decide +kernel
theorem dX3_begin_45 : decode cX3_begin 45 = .ok (.aload_n 0, 1) := by decide +kernel
theorem dX3_begin_46 : decode cX3_begin 46 = .ok (.getfield 35, 3) := by decide +kernel
theorem dX3_begin_49 : decode cX3_begin 49 = .ok (.dup, 1) := by decide +kernel
theorem dX3_begin_50 : decode cX3_begin 50 = .ok (.getfield 117, 3) := by decide +kernel
theorem dX3_begin_53 : decode cX3_begin 53 = .ok (.iconst 1, 1) := by decide +kernel
theorem dX3_begin_54 : decode cX3_begin 54 = .ok (.iadd, 1) := by decide +kernel
theorem dX3_begin_55 : decode cX3_begin 55 = .ok (.putfield 117, 3) := by decide +kernel
theorem dX3_begin_58 : decode cX3_begin 58 = .ok (.aload_n 0, 1) := by decide +kernel
theorem dX3_begin_59 : decode cX3_begin 59 = .ok (.getfield 74, 3) := by decide +kernel
theorem dX3_begin_62 : decode cX3_begin 62 = .ok (.getfield 123, 3) := by decide +kernel
theorem dX3_begin_65 : decode cX3_begin 65 = .ok (.iload_n 3, 1) := by decide +kernel
theorem dX3_begin_66 : decode cX3_begin 66 = .ok (.iaload, 1) := by decide +kernel
theorem dX3_begin_67 : decode cX3_begin 67 = .ok (.istore_n 3, 1) := by decide +kernel
theorem dX3_begin_68 : decode cX3_begin 68 = .ok (.iinc 4 1, 3) := by decide +kernel
theorem dX3_begin_71 : decode cX3_begin 71 = .ok (.goto (-58), 3) := by decide +kernel
theorem dX3_begin_36 : decode cX3_begin 36 = .ok (.aload_n 0, 1) := by decide +kernel
theorem dX3_begin_37 : decode cX3_begin 37 = .ok (.bipush 6, 2) := by decide +kernel
theorem dX3_begin_39 : decode cX3_begin 39 = .ok (.iload_n 3, 1) := by decide +kernel
theorem dX3_begin_40 : decode cX3_begin 40 = .ok (.invokevirtual 120, 3) := by decide +kernel
theorem dX3_begin_43 : decode cX3_begin 43 = .ok (.iconst 0, 1) := by decide +kernel
theorem dX3_begin_44 : decode cX3_begin 44 = .ok (.ireturn, 1) := by decide +kernel
theorem dX3_begin_74 : decode cX3_begin 74 = .ok (.iconst 1, 1) := by decide +kernel
theorem dX3_begin_75 : decode cX3_begin 75 = .ok (.ireturn, 1) := by decide +kernel
theorem dX3_push_0 : decode cX3_push 0 = .ok (.aload_n 0, 1) := by decide +kernel
theorem dX3_push_1 : decode cX3_push 1 = .ok (.getfield 20, 3) := by decide +kernel
theorem dX3_push_4 : decode cX3_push 4 = .ok (.invokevirtual 215, 3) := by decide +kernel
theorem dX3_push_7 : decode cX3_push 7 = .ok (.istore_n 3, 1) := by decide +kernel
theorem dX3_push_8 : decode cX3_push 8 = .ok (.aload_n 0, 1) := by decide +kernel
theorem dX3_push_9 : decode cX3_push 9 = .ok (.getfield 20, 3) := by decide +kernel
theorem dX3_push_12 : decode cX3_push 12 = .ok (.iload_n 3, 1) := by decide +kernel
theorem dX3_push_13 : decode cX3_push 13 = .ok (.iconst 0, 1) := by decide +kernel
theorem dX3_push_14 : decode cX3_push 14 = .ok (.iload_n 1, 1) := by decide +kernel
theorem dX3_push_15 : decode cX3_push 15 = .ok (.invokevirtual 218, 3) := by decide +kernel
theorem dX3_push_18 : decode cX3_push 18 = .ok (.aload_n 0, 1) := by decide +kernel
theorem dX3_push_19 : decode cX3_push 19 = .ok (.getfield 20, 3) := by decide +kernel
theorem dX3_push_22 : decode cX3_push 22 = .ok (.iload_n 3, 1) := by decide +kernel
theorem dX3_push_23 : decode cX3_push 23 = .ok (.iconst 1, 1) := by decide +kernel
theorem dX3_push_24 : decode cX3_push 24 = .ok (.iload_n 2, 1) := by decide +kernel
theorem dX3_push_25 : decode cX3_push 25 = .ok (.invokevirtual 218, 3) := by decide +kernel
theorem dX3_push_28 : decode cX3_push 28 = .ok (.return_, 1) := by decide +kernel
theorem dX3_frameAt_0 : decode cX3_frameAt 0 = .ok (.aload_n 0, 1) := by decide +kernel
theorem dX3_frameAt_1 : decode cX3_frameAt 1 = .ok (.getfield 49, 3) := by decide +kernel
theorem dX3_frameAt_4 : decode cX3_frameAt 4 = .ok (.istore_n 2, 1) := by decide +kernel
theorem dX3_frameAt_5 : decode cX3_frameAt 5 = .ok (.iconst 0, 1) := by decide +kernel
theorem dX3_frameAt_6 : decode cX3_frameAt 6 = .ok (.istore_n 3, 1) := by decide +kernel
theorem dX3_frameAt_7 : decode cX3_frameAt 7 = .ok (.iload_n 3, 1) := by decide +kernel
theorem dX3_frameAt_8 : decode cX3_frameAt 8 = .ok (.iload_n 1, 1) := by decide +kernel
theorem dX3_frameAt_9 : decode cX3_frameAt 9 = .ok (.if_icmp .ge 19, 3) := by decide +kernel
theorem dX3_frameAt_12 : decode cX3_frameAt 12 = .ok (.aload_n 0, 1) := by decide +kernel
theorem dX3_frameAt_13 : decode cX3_frameAt 13 = .ok (.getfield 23, 3) := by decide +kernel
theorem dX3_frameAt_16 : decode cX3_frameAt 16 = .ok (.iload_n 2, 1) := by decide +kernel
theorem dX3_frameAt_17 : decode cX3_frameAt 17 = .ok (.iconst 1, 1) := by decide +kernel
theorem dX3_frameAt_18 : decode cX3_frameAt 18 = .ok (.invokevirtual 221, 3) := by decide +kernel
theorem dX3_frameAt_21 : decode cX3_frameAt 21 = .ok (.istore_n 2, 1) := by decide +kernel
theorem dX3_frameAt_22 : decode cX3_frameAt 22 = .ok (.iinc 3 1, 3) := by decide +kernel
theorem dX3_frameAt_25 : decode cX3_frameAt 25 = .ok (.goto (-18), 3) := by decide +kernel
theorem dX3_frameAt_28 : decode cX3_frameAt 28 = .ok (.iload_n 2, 1) := by decide +kernel
theorem dX3_frameAt_29 : decode cX3_frameAt 29 = .ok (.ireturn, 1) := by decide +kernel
theorem dX3_cellOf_0 : decode cX3_cellOf 0 = .ok (.aload_n 0, 1) := by decide +kernel
theorem dX3_cellOf_1 : decode cX3_cellOf 1 = .ok (.getfield 23, 3) := by decide +kernel
theorem dX3_cellOf_4 : decode cX3_cellOf 4 = .ok (.aload_n 0, 1) := by decide +kernel
theorem dX3_cellOf_5 : decode cX3_cellOf 5 = .ok (.aload_n 0, 1) := by decide +kernel
theorem dX3_cellOf_6 : decode cX3_cellOf 6 = .ok (.getfield 74, 3) := by decide +kernel
theorem dX3_cellOf_9 : decode cX3_cellOf 9 = .ok (.getfield 139, 3) := by decide +kernel
theorem dX3_cellOf_12 : decode cX3_cellOf 12 = .ok (.iload_n 1, 1) := by decide +kernel
theorem dX3_cellOf_13 : decode cX3_cellOf 13 = .ok (.iaload, 1) := by decide +kernel
theorem dX3_cellOf_14 : decode cX3_cellOf 14 = .ok (.invokevirtual 180, 3) := by decide +kernel
theorem dX3_cellOf_17 : decode cX3_cellOf 17 = .ok (.iconst 2, 1) := by decide +kernel
theorem dX3_cellOf_18 : decode cX3_cellOf 18 = .ok (.invokevirtual 221, 3) := by decide +kernel
theorem dX3_cellOf_21 : decode cX3_cellOf 21 = .ok (.aload_n 0, 1) := by decide +kernel
theorem dX3_cellOf_22 : decode cX3_cellOf 22 = .ok (.getfield 74, 3) := by decide +kernel
theorem dX3_cellOf_25 : decode cX3_cellOf 25 = .ok (.getfield 177, 3) := by decide +kernel
theorem dX3_cellOf_28 : decode cX3_cellOf 28 = .ok (.iload_n 1, 1) := by decide +kernel
theorem dX3_cellOf_29 : decode cX3_cellOf 29 = .ok (.iaload, 1) := by decide +kernel
theorem dX3_cellOf_30 : decode cX3_cellOf 30 = .ok (.iadd, 1) := by decide +kernel
theorem dX3_cellOf_31 : decode cX3_cellOf 31 = .ok (.ireturn, 1) := by decide +kernel
theorem dX3_pushCell_0 : decode cX3_pushCell 0 = .ok (.aload_n 0, 1) := by decide +kernel
theorem dX3_pushCell_1 : decode cX3_pushCell 1 = .ok (.aload_n 0, 1) := by decide +kernel
theorem dX3_pushCell_2 : decode cX3_pushCell 2 = .ok (.getfield 14, 3) := by decide +kernel
theorem dX3_pushCell_5 : decode cX3_pushCell 5 = .ok (.iload_n 1, 1) := by decide +kernel
theorem dX3_pushCell_6 : decode cX3_pushCell 6 = .ok (.iconst 0, 1) := by decide +kernel
theorem dX3_pushCell_7 : decode cX3_pushCell 7 = .ok (.invokevirtual 221, 3) := by decide +kernel
theorem dX3_pushCell_10 : decode cX3_pushCell 10 = .ok (.aload_n 0, 1) := by decide +kernel
theorem dX3_pushCell_11 : decode cX3_pushCell 11 = .ok (.getfield 14, 3) := by decide +kernel
theorem dX3_pushCell_14 : decode cX3_pushCell 14 = .ok (.iload_n 1, 1) := by decide +kernel
theorem dX3_pushCell_15 : decode cX3_pushCell 15 = .ok (.iconst 1, 1) := by decide +kernel
theorem dX3_pushCell_16 : decode cX3_pushCell 16 = .ok (.invokevirtual 221, 3) := by decide +kernel
theorem dX3_pushCell_19 : decode cX3_pushCell 19 = .ok (.invokevirtual 142, 3) := by decide +kernel
theorem dX3_pushCell_22 : decode cX3_pushCell 22 = .ok (.return_, 1) := by decide +kernel
theorem dX3_get_0 : decode cX3_get 0 = .ok (.aload_n 0, 1) := by decide +kernel
theorem dX3_get_1 : decode cX3_get 1 = .ok (.getfield 70, 3) := by decide +kernel
theorem dX3_get_4 : decode cX3_get 4 = .ok (.getfield 228, 3) := by decide +kernel
theorem dX3_get_7 : decode cX3_get 7 = .ok (.aload_n 0, 1) := by decide +kernel
theorem dX3_get_8 : decode cX3_get 8 = .ok (.getfield 74, 3) := by decide +kernel
theorem dX3_get_11 : decode cX3_get 11 = .ok (.getfield 206, 3) := by decide +kernel
theorem dX3_get_14 : decode cX3_get 14 = .ok (.iload_n 2, 1) := by decide +kernel
theorem dX3_get_15 : decode cX3_get 15 = .ok (.iaload, 1) := by decide +kernel
theorem dX3_get_16 : decode cX3_get 16 = .ok (.iaload, 1) := by decide +kernel
theorem dX3_get_17 : decode cX3_get 17 = .ok (.istore_n 3, 1) := by decide +kernel
theorem dX3_get_18 : decode cX3_get 18 = .ok (.iload_n 3, 1) := by decide +kernel
theorem dX3_get_19 : decode cX3_get 19 = .ok (.iconst 1, 1) := by decide +kernel
theorem dX3_get_20 : decode cX3_get 20 = .ok (.if_icmp .ne 28, 3) := by decide +kernel
theorem dX3_get_48 : decode cX3_get 48 = .ok (.iload_n 3, 1) := by decide +kernel
theorem dX3_get_49 : decode cX3_get 49 = .ok (.iconst 2, 1) := by decide +kernel
theorem dX3_get_50 : decode cX3_get 50 = .ok (.if_icmp .ne 44, 3) := by decide +kernel
theorem dX3_get_94 : decode cX3_get 94 = .ok (.aload_n 0, 1) := by decide +kernel
theorem dX3_get_95 : decode cX3_get 95 = .ok (.iload_n 1, 1) := by decide +kernel
theorem dX3_get_96 : decode cX3_get 96 = .ok (.invokevirtual 174, 3) := by decide +kernel
theorem dX3_get_99 : decode cX3_get 99 = .ok (.return_, 1) := by decide +kernel
theorem dX3_get_53 : decode cX3_get 53 = .ok (.aload_n 0, 1) := by decide +kernel
theorem dX3_get_54 : decode cX3_get 54 = .ok (.aload_n 0, 1) := by decide +kernel
theorem dX3_get_55 : decode cX3_get 55 = .ok (.getfield 46, 3) := by decide +kernel
theorem dX3_get_58 : decode cX3_get 58 = .ok (.aload_n 0, 1) := by decide +kernel
theorem dX3_get_59 : decode cX3_get 59 = .ok (.getfield 52, 3) := by decide +kernel
theorem dX3_get_62 : decode cX3_get 62 = .ok (.invokevirtual 89, 3) := by decide +kernel
theorem dX3_get_65 : decode cX3_get 65 = .ok (.aload_n 0, 1) := by decide +kernel
theorem dX3_get_66 : decode cX3_get 66 = .ok (.aload_n 0, 1) := by decide +kernel
theorem dX3_get_67 : decode cX3_get 67 = .ok (.getfield 14, 3) := by decide +kernel
theorem dX3_get_70 : decode cX3_get 70 = .ok (.iload_n 1, 1) := by decide +kernel
theorem dX3_get_71 : decode cX3_get 71 = .ok (.iconst 1, 1) := by decide +kernel
theorem dX3_get_72 : decode cX3_get 72 = .ok (.invokevirtual 221, 3) := by decide +kernel
theorem dX3_get_75 : decode cX3_get 75 = .ok (.putfield 49, 3) := by decide +kernel
theorem dX3_get_78 : decode cX3_get 78 = .ok (.aload_n 0, 1) := by decide +kernel
theorem dX3_get_79 : decode cX3_get 79 = .ok (.aload_n 0, 1) := by decide +kernel
theorem dX3_get_80 : decode cX3_get 80 = .ok (.getfield 14, 3) := by decide +kernel
theorem dX3_get_83 : decode cX3_get 83 = .ok (.iload_n 1, 1) := by decide +kernel
theorem dX3_get_84 : decode cX3_get 84 = .ok (.iconst 0, 1) := by decide +kernel
theorem dX3_get_85 : decode cX3_get 85 = .ok (.invokevirtual 221, 3) := by decide +kernel
theorem dX3_get_88 : decode cX3_get 88 = .ok (.putfield 46, 3) := by decide +kernel
theorem dX3_get_91 : decode cX3_get 91 = .ok (.goto 8, 3) := by decide +kernel
theorem dX3_get_23 : decode cX3_get 23 = .ok (.aload_n 0, 1) := by decide +kernel
theorem dX3_get_24 : decode cX3_get 24 = .ok (.aload_n 0, 1) := by decide +kernel
theorem dX3_get_25 : decode cX3_get 25 = .ok (.getfield 14, 3) := by decide +kernel
theorem dX3_get_28 : decode cX3_get 28 = .ok (.aload_n 0, 1) := by decide +kernel
theorem dX3_get_29 : decode cX3_get 29 = .ok (.getfield 14, 3) := by decide +kernel
theorem dX3_get_32 : decode cX3_get 32 = .ok (.iload_n 1, 1) := by decide +kernel
theorem dX3_get_33 : decode cX3_get 33 = .ok (.iconst 0, 1) := by decide +kernel
theorem dX3_get_34 : decode cX3_get 34 = .ok (.invokevirtual 221, 3) := by decide +kernel
theorem dX3_get_37 : decode cX3_get 37 = .ok (.iconst 0, 1) := by decide +kernel
theorem dX3_get_38 : decode cX3_get 38 = .ok (.invokevirtual 221, 3) := by decide +kernel
theorem dX3_get_41 : decode cX3_get 41 = .ok (.iconst 0, 1) := by decide +kernel
theorem dX3_get_42 : decode cX3_get 42 = .ok (.invokevirtual 142, 3) := by decide +kernel
theorem dX3_get_45 : decode cX3_get 45 = .ok (.goto 54, 3) := by decide +kernel
theorem dX3_pop_0 : decode cX3_pop 0 = .ok (.aload_n 0, 1) := by decide +kernel
theorem dX3_pop_1 : decode cX3_pop 1 = .ok (.getfield 20, 3) := by decide +kernel
theorem dX3_pop_4 : decode cX3_pop 4 = .ok (.aload_n 0, 1) := by decide +kernel
theorem dX3_pop_5 : decode cX3_pop 5 = .ok (.getfield 20, 3) := by decide +kernel
theorem dX3_pop_8 : decode cX3_pop 8 = .ok (.getfield 200, 3) := by decide +kernel
theorem dX3_pop_11 : decode cX3_pop 11 = .ok (.iconst 1, 1) := by decide +kernel
theorem dX3_pop_12 : decode cX3_pop 12 = .ok (.isub, 1) := by decide +kernel
theorem dX3_pop_13 : decode cX3_pop 13 = .ok (.iconst 0, 1) := by decide +kernel
theorem dX3_pop_14 : decode cX3_pop 14 = .ok (.invokevirtual 221, 3) := by decide +kernel
theorem dX3_pop_17 : decode cX3_pop 17 = .ok (.istore_n 1, 1) := by decide +kernel
theorem dX3_pop_18 : decode cX3_pop 18 = .ok (.aload_n 0, 1) := by decide +kernel
theorem dX3_pop_19 : decode cX3_pop 19 = .ok (.getfield 20, 3) := by decide +kernel
theorem dX3_pop_22 : decode cX3_pop 22 = .ok (.aload_n 0, 1) := by decide +kernel
theorem dX3_pop_23 : decode cX3_pop 23 = .ok (.getfield 20, 3) := by decide +kernel
theorem dX3_pop_26 : decode cX3_pop 26 = .ok (.getfield 200, 3) := by decide +kernel
theorem dX3_pop_29 : decode cX3_pop 29 = .ok (.iconst 1, 1) := by decide +kernel
theorem dX3_pop_30 : decode cX3_pop 30 = .ok (.isub, 1) := by decide +kernel
theorem dX3_pop_31 : decode cX3_pop 31 = .ok (.invokevirtual 111, 3) := by decide +kernel
theorem dX3_pop_34 : decode cX3_pop 34 = .ok (.iload_n 1, 1) := by decide +kernel
theorem dX3_pop_35 : decode cX3_pop 35 = .ok (.ireturn, 1) := by decide +kernel
theorem dX3_pick_0 : decode cX3_pick 0 = .ok (.aload_n 0, 1) := by decide +kernel
theorem dX3_pick_1 : decode cX3_pick 1 = .ok (.invokevirtual 189, 3) := by decide +kernel
theorem dX3_pick_4 : decode cX3_pick 4 = .ok (.istore 4, 2) := by decide +kernel
theorem dX3_pick_6 : decode cX3_pick 6 = .ok (.aload_n 0, 1) := by decide +kernel
theorem dX3_pick_7 : decode cX3_pick 7 = .ok (.getfield 14, 3) := by decide +kernel
theorem dX3_pick_10 : decode cX3_pick 10 = .ok (.iload_n 1, 1) := by decide +kernel
theorem dX3_pick_11 : decode cX3_pick 11 = .ok (.iconst 0, 1) := by decide +kernel
theorem dX3_pick_12 : decode cX3_pick 12 = .ok (.invokevirtual 221, 3) := by decide +kernel
theorem dX3_pick_15 : decode cX3_pick 15 = .ok (.iload 4, 2) := by decide +kernel
theorem dX3_pick_17 : decode cX3_pick 17 = .ok (.iadd, 1) := by decide +kernel
theorem dX3_pick_18 : decode cX3_pick 18 = .ok (.istore 5, 2) := by decide +kernel
theorem dX3_pick_20 : decode cX3_pick 20 = .ok (.iload 4, 2) := by decide +kernel
theorem dX3_pick_22 : decode cX3_pick 22 = .ok (.ifCond .lt 17, 3) := by decide +kernel
theorem dX3_pick_39 : decode cX3_pick 39 = .ok (.aload_n 0, 1) := by decide +kernel
theorem dX3_pick_40 : decode cX3_pick 40 = .ok (.iconst 2, 1) := by decide +kernel
theorem dX3_pick_41 : decode cX3_pick 41 = .ok (.aload_n 0, 1) := by decide +kernel
theorem dX3_pick_42 : decode cX3_pick 42 = .ok (.getfield 74, 3) := by decide +kernel
theorem dX3_pick_45 : decode cX3_pick 45 = .ok (.getfield 206, 3) := by decide +kernel
theorem dX3_pick_48 : decode cX3_pick 48 = .ok (.iload_n 2, 1) := by decide +kernel
theorem dX3_pick_49 : decode cX3_pick 49 = .ok (.iaload, 1) := by decide +kernel
theorem dX3_pick_50 : decode cX3_pick 50 = .ok (.invokevirtual 120, 3) := by decide +kernel
theorem dX3_pick_53 : decode cX3_pick 53 = .ok (.goto 27, 3) := by decide +kernel
theorem dX3_pick_80 : decode cX3_pick 80 = .ok (.return_, 1) := by decide +kernel
theorem dX3_pick_25 : decode cX3_pick 25 = .ok (.iload 4, 2) := by decide +kernel
theorem dX3_pick_27 : decode cX3_pick 27 = .ok (.aload_n 0, 1) := by decide +kernel
theorem dX3_pick_28 : decode cX3_pick 28 = .ok (.getfield 14, 3) := by decide +kernel
theorem dX3_pick_31 : decode cX3_pick 31 = .ok (.iload_n 1, 1) := by decide +kernel
theorem dX3_pick_32 : decode cX3_pick 32 = .ok (.iconst 1, 1) := by decide +kernel
theorem dX3_pick_33 : decode cX3_pick 33 = .ok (.invokevirtual 221, 3) := by decide +kernel
theorem dX3_pick_36 : decode cX3_pick 36 = .ok (.if_icmp .lt 20, 3) := by decide +kernel
theorem dX3_pick_56 : decode cX3_pick 56 = .ok (.aload_n 0, 1) := by decide +kernel
theorem dX3_pick_57 : decode cX3_pick 57 = .ok (.iload_n 3, 1) := by decide +kernel
theorem dX3_pick_58 : decode cX3_pick 58 = .ok (.ifCond .eq 8, 3) := by decide +kernel
theorem dX3_pick_66 : decode cX3_pick 66 = .ok (.aload_n 0, 1) := by decide +kernel
theorem dX3_pick_67 : decode cX3_pick 67 = .ok (.getfield 14, 3) := by decide +kernel
theorem dX3_pick_70 : decode cX3_pick 70 = .ok (.iload 5, 2) := by decide +kernel
theorem dX3_pick_72 : decode cX3_pick 72 = .ok (.iconst 0, 1) := by decide +kernel
theorem dX3_pick_73 : decode cX3_pick 73 = .ok (.invokevirtual 221, 3) := by decide +kernel
theorem dX3_pick_76 : decode cX3_pick 76 = .ok (.iconst 0, 1) := by decide +kernel
theorem dX3_pick_77 : decode cX3_pick 77 = .ok (.invokevirtual 142, 3) := by decide +kernel
theorem dX3_pick_61 : decode cX3_pick 61 = .ok (.iload 5, 2) := by decide +kernel
theorem dX3_pick_63 : decode cX3_pick 63 = .ok (.goto 13, 3) := by decide +kernel
theorem dX3_reckon_0 : decode cX3_reckon 0 = .ok (.aload_n 0, 1) := by decide +kernel
theorem dX3_reckon_1 : decode cX3_reckon 1 = .ok (.invokevirtual 189, 3) := by decide +kernel
theorem dX3_reckon_4 : decode cX3_reckon 4 = .ok (.istore_n 3, 1) := by decide +kernel
theorem dX3_reckon_5 : decode cX3_reckon 5 = .ok (.aload_n 0, 1) := by decide +kernel
theorem dX3_reckon_6 : decode cX3_reckon 6 = .ok (.invokevirtual 189, 3) := by decide +kernel
theorem dX3_reckon_9 : decode cX3_reckon 9 = .ok (.istore 4, 2) := by decide +kernel
theorem dX3_reckon_11 : decode cX3_reckon 11 = .ok (.iload_n 2, 1) := by decide +kernel
theorem dX3_reckon_12 : decode cX3_reckon 12 = .ok (.iconst 1, 1) := by decide +kernel
theorem dX3_reckon_13 : decode cX3_reckon 13 = .ok (.isub, 1) := by decide +kernel
theorem dX3_reckon_14 : decode cX3_reckon 14 = .ok (.bipush 6, 2) := by decide +kernel
theorem dX3_reckon_16 : decode cX3_reckon 16 = .ok (.if_icmp .ne 24, 3) := by decide +kernel
theorem dX3_reckon_40 : decode cX3_reckon 40 = .ok (.aload_n 0, 1) := by decide +kernel
theorem dX3_reckon_41 : decode cX3_reckon 41 = .ok (.iload_n 2, 1) := by decide +kernel
theorem dX3_reckon_42 : decode cX3_reckon 42 = .ok (.iconst 1, 1) := by decide +kernel
theorem dX3_reckon_43 : decode cX3_reckon 43 = .ok (.isub, 1) := by decide +kernel
theorem dX3_reckon_44 : decode cX3_reckon 44 = .ok (.iload 4, 2) := by decide +kernel
theorem dX3_reckon_46 : decode cX3_reckon 46 = .ok (.iload_n 3, 1) := by decide +kernel
theorem dX3_reckon_47 : decode cX3_reckon 47 = .ok (.invokestatic 225, 3) := by decide +kernel
theorem dX3_reckon_50 : decode cX3_reckon 50 = .ok (.iconst 0, 1) := by decide +kernel
theorem dX3_reckon_51 : decode cX3_reckon 51 = .ok (.invokevirtual 142, 3) := by decide +kernel
theorem dX3_reckon_54 : decode cX3_reckon 54 = .ok (.return_, 1) := by decide +kernel
theorem dX3_reckon_19 : decode cX3_reckon 19 = .ok (.iload_n 3, 1) := by decide +kernel
theorem dX3_reckon_20 : decode cX3_reckon 20 = .ok (.ifCond .ne 20, 3) := by decide +kernel
theorem dX3_reckon_23 : decode cX3_reckon 23 = .ok (.aload_n 0, 1) := by decide +kernel
theorem dX3_reckon_24 : decode cX3_reckon 24 = .ok (.iconst 1, 1) := by decide +kernel
theorem dX3_reckon_25 : decode cX3_reckon 25 = .ok (.aload_n 0, 1) := by decide +kernel
theorem dX3_reckon_26 : decode cX3_reckon 26 = .ok (.getfield 74, 3) := by decide +kernel
theorem dX3_reckon_29 : decode cX3_reckon 29 = .ok (.getfield 206, 3) := by decide +kernel
theorem dX3_reckon_32 : decode cX3_reckon 32 = .ok (.iload_n 1, 1) := by decide +kernel
theorem dX3_reckon_33 : decode cX3_reckon 33 = .ok (.iaload, 1) := by decide +kernel
theorem dX3_reckon_34 : decode cX3_reckon 34 = .ok (.invokevirtual 120, 3) := by decide +kernel
theorem dX3_reckon_37 : decode cX3_reckon 37 = .ok (.goto 17, 3) := by decide +kernel
theorem dX3_go_0 : decode cX3_go 0 = .ok (.aload_n 0, 1) := by decide +kernel
theorem dX3_go_1 : decode cX3_go 1 = .ok (.getfield 74, 3) := by decide +kernel
theorem dX3_go_4 : decode cX3_go 4 = .ok (.getfield 206, 3) := by decide +kernel
theorem dX3_go_7 : decode cX3_go 7 = .ok (.iload_n 1, 1) := by decide +kernel
theorem dX3_go_8 : decode cX3_go 8 = .ok (.iaload, 1) := by decide +kernel
theorem dX3_go_9 : decode cX3_go 9 = .ok (.istore_n 2, 1) := by decide +kernel
theorem dX3_go_10 : decode cX3_go 10 = .ok (.aload_n 0, 1) := by decide +kernel
theorem dX3_go_11 : decode cX3_go 11 = .ok (.getfield 55, 3) := by decide +kernel
theorem dX3_go_14 : decode cX3_go 14 = .ok (.aload_n 0, 1) := by decide +kernel
theorem dX3_go_15 : decode cX3_go 15 = .ok (.getfield 43, 3) := by decide +kernel
theorem dX3_go_18 : decode cX3_go 18 = .ok (.if_icmp .lt 11, 3) := by decide +kernel
theorem dX3_go_29 : decode cX3_go 29 = .ok (.aload_n 0, 1) := by decide +kernel
theorem dX3_go_30 : decode cX3_go 30 = .ok (.aload_n 0, 1) := by decide +kernel
theorem dX3_go_31 : decode cX3_go 31 = .ok (.getfield 74, 3) := by decide +kernel
theorem dX3_go_34 : decode cX3_go 34 = .ok (.getfield 139, 3) := by decide +kernel
theorem dX3_go_37 : decode cX3_go 37 = .ok (.iload_n 1, 1) := by decide +kernel
theorem dX3_go_38 : decode cX3_go 38 = .ok (.iaload, 1) := by decide +kernel
theorem dX3_go_39 : decode cX3_go 39 = .ok (.invokevirtual 180, 3) := by decide +kernel
theorem dX3_go_42 : decode cX3_go 42 = .ok (.istore_n 3, 1) := by decide +kernel
theorem dX3_go_43 : decode cX3_go 43 = .ok (.aload_n 0, 1) := by decide +kernel
theorem dX3_go_44 : decode cX3_go 44 = .ok (.getfield 66, 3) := by decide +kernel
theorem dX3_go_47 : decode cX3_go 47 = .ok (.getfield 249, 3) := by decide +kernel
theorem dX3_go_50 : decode cX3_go 50 = .ok (.iload_n 2, 1) := by decide +kernel
theorem dX3_go_51 : decode cX3_go 51 = .ok (.iaload, 1) := by decide +kernel
theorem dX3_go_52 : decode cX3_go 52 = .ok (.iconst (-1), 1) := by decide +kernel
theorem dX3_go_53 : decode cX3_go 53 = .ok (.if_icmp .eq 80, 3) := by decide +kernel
theorem dX3_go_133 : decode cX3_go 133 = .ok (.aload_n 0, 1) := by decide +kernel
theorem dX3_go_134 : decode cX3_go 134 = .ok (.aload_n 0, 1) := by decide +kernel
theorem dX3_go_135 : decode cX3_go 135 = .ok (.getfield 46, 3) := by decide +kernel
theorem dX3_go_138 : decode cX3_go 138 = .ok (.aload_n 0, 1) := by decide +kernel
theorem dX3_go_139 : decode cX3_go 139 = .ok (.getfield 52, 3) := by decide +kernel
theorem dX3_go_142 : decode cX3_go 142 = .ok (.invokevirtual 89, 3) := by decide +kernel
theorem dX3_go_145 : decode cX3_go 145 = .ok (.aload_n 0, 1) := by decide +kernel
theorem dX3_go_146 : decode cX3_go 146 = .ok (.aload_n 0, 1) := by decide +kernel
theorem dX3_go_147 : decode cX3_go 147 = .ok (.getfield 74, 3) := by decide +kernel
theorem dX3_go_150 : decode cX3_go 150 = .ok (.getfield 177, 3) := by decide +kernel
theorem dX3_go_153 : decode cX3_go 153 = .ok (.iload_n 1, 1) := by decide +kernel
theorem dX3_go_154 : decode cX3_go 154 = .ok (.iaload, 1) := by decide +kernel
theorem dX3_go_155 : decode cX3_go 155 = .ok (.iload_n 3, 1) := by decide +kernel
theorem dX3_go_156 : decode cX3_go 156 = .ok (.invokevirtual 93, 3) := by decide +kernel
theorem dX3_go_159 : decode cX3_go 159 = .ok (.return_, 1) := by decide +kernel
theorem dX3_go_56 : decode cX3_go 56 = .ok (.aload_n 0, 1) := by decide +kernel
theorem dX3_go_57 : decode cX3_go 57 = .ok (.getfield 70, 3) := by decide +kernel
theorem dX3_go_60 : decode cX3_go 60 = .ok (.getfield 254, 3) := by decide +kernel
theorem dX3_go_63 : decode cX3_go 63 = .ok (.aload_n 0, 1) := by decide +kernel
theorem dX3_go_64 : decode cX3_go 64 = .ok (.getfield 66, 3) := by decide +kernel
theorem dX3_go_67 : decode cX3_go 67 = .ok (.getfield 249, 3) := by decide +kernel
theorem dX3_go_70 : decode cX3_go 70 = .ok (.iload_n 2, 1) := by decide +kernel
theorem dX3_go_71 : decode cX3_go 71 = .ok (.iaload, 1) := by decide +kernel
theorem dX3_go_72 : decode cX3_go 72 = .ok (.baload, 1) := by decide +kernel
theorem dX3_go_73 : decode cX3_go 73 = .ok (.ifCond .eq 60, 3) := by decide +kernel
theorem dX3_go_76 : decode cX3_go 76 = .ok (.aload_n 0, 1) := by decide +kernel
theorem dX3_go_77 : decode cX3_go 77 = .ok (.getfield 29, 3) := by decide +kernel
theorem dX3_go_80 : decode cX3_go 80 = .ok (.aload_n 0, 1) := by decide +kernel
theorem dX3_go_81 : decode cX3_go 81 = .ok (.getfield 26, 3) := by decide +kernel
theorem dX3_go_84 : decode cX3_go 84 = .ok (.aload_n 0, 1) := by decide +kernel
theorem dX3_go_85 : decode cX3_go 85 = .ok (.getfield 26, 3) := by decide +kernel
theorem dX3_go_88 : decode cX3_go 88 = .ok (.getfield 200, 3) := by decide +kernel
theorem dX3_go_91 : decode cX3_go 91 = .ok (.iconst 1, 1) := by decide +kernel
theorem dX3_go_92 : decode cX3_go 92 = .ok (.isub, 1) := by decide +kernel
theorem dX3_go_93 : decode cX3_go 93 = .ok (.iconst 4, 1) := by decide +kernel
theorem dX3_go_94 : decode cX3_go 94 = .ok (.invokevirtual 221, 3) := by decide +kernel
theorem dX3_go_97 : decode cX3_go 97 = .ok (.invokevirtual 111, 3) := by decide +kernel
theorem dX3_go_100 : decode cX3_go 100 = .ok (.aload_n 0, 1) := by decide +kernel
theorem dX3_go_101 : decode cX3_go 101 = .ok (.aload_n 0, 1) := by decide +kernel
theorem dX3_go_102 : decode cX3_go 102 = .ok (.getfield 46, 3) := by decide +kernel
theorem dX3_go_105 : decode cX3_go 105 = .ok (.aload_n 0, 1) := by decide +kernel
theorem dX3_go_106 : decode cX3_go 106 = .ok (.getfield 39, 3) := by decide +kernel
theorem dX3_go_109 : decode cX3_go 109 = .ok (.iconst 2, 1) := by decide +kernel
theorem dX3_go_110 : decode cX3_go 110 = .ok (.iand, 1) := by decide +kernel
theorem dX3_go_111 : decode cX3_go 111 = .ok (.ifCond .eq 12, 3) := by decide +kernel
theorem dX3_go_123 : decode cX3_go 123 = .ok (.aload_n 0, 1) := by decide +kernel
theorem dX3_go_124 : decode cX3_go 124 = .ok (.getfield 52, 3) := by decide +kernel
theorem dX3_go_127 : decode cX3_go 127 = .ok (.invokevirtual 89, 3) := by decide +kernel
theorem dX3_go_130 : decode cX3_go 130 = .ok (.goto 15, 3) := by decide +kernel
theorem dX3_go_114 : decode cX3_go 114 = .ok (.aload_n 0, 1) := by decide +kernel
theorem dX3_go_115 : decode cX3_go 115 = .ok (.getfield 52, 3) := by decide +kernel
theorem dX3_go_118 : decode cX3_go 118 = .ok (.iconst 1, 1) := by decide +kernel
theorem dX3_go_119 : decode cX3_go 119 = .ok (.isub, 1) := by decide +kernel
theorem dX3_go_120 : decode cX3_go 120 = .ok (.goto 7, 3) := by decide +kernel
theorem dX3_go_21 : decode cX3_go 21 = .ok (.aload_n 0, 1) := by decide +kernel
theorem dX3_go_22 : decode cX3_go 22 = .ok (.bipush 7, 2) := by decide +kernel
theorem dX3_go_24 : decode cX3_go 24 = .ok (.iload_n 2, 1) := by decide +kernel
theorem dX3_go_25 : decode cX3_go 25 = .ok (.invokevirtual 120, 3) := by decide +kernel
theorem dX3_go_28 : decode cX3_go 28 = .ok (.return_, 1) := by decide +kernel
theorem dX3_goByProc_0 : decode cX3_goByProc 0 = .ok (.aload_n 0, 1) := by decide +kernel
theorem dX3_goByProc_1 : decode cX3_goByProc 1 = .ok (.getfield 74, 3) := by decide +kernel
theorem dX3_goByProc_4 : decode cX3_goByProc 4 = .ok (.getfield 206, 3) := by decide +kernel
theorem dX3_goByProc_7 : decode cX3_goByProc 7 = .ok (.iload_n 2, 1) := by decide +kernel
theorem dX3_goByProc_8 : decode cX3_goByProc 8 = .ok (.iaload, 1) := by decide +kernel
theorem dX3_goByProc_9 : decode cX3_goByProc 9 = .ok (.istore_n 3, 1) := by decide +kernel
theorem dX3_goByProc_10 : decode cX3_goByProc 10 = .ok (.aload_n 0, 1) := by decide +kernel
theorem dX3_goByProc_11 : decode cX3_goByProc 11 = .ok (.getfield 14, 3) := by decide +kernel
theorem dX3_goByProc_14 : decode cX3_goByProc 14 = .ok (.iload_n 1, 1) := by decide +kernel
theorem dX3_goByProc_15 : decode cX3_goByProc 15 = .ok (.iconst 0, 1) := by decide +kernel
theorem dX3_goByProc_16 : decode cX3_goByProc 16 = .ok (.invokevirtual 221, 3) := by decide +kernel
theorem dX3_goByProc_19 : decode cX3_goByProc 19 = .ok (.istore 4, 2) := by decide +kernel
theorem dX3_goByProc_21 : decode cX3_goByProc 21 = .ok (.iload 4, 2) := by decide +kernel
theorem dX3_goByProc_23 : decode cX3_goByProc 23 = .ok (.iconst (-1), 1) := by decide +kernel
theorem dX3_goByProc_24 : decode cX3_goByProc 24 = .ok (.if_icmp .eq 15, 3) := by decide +kernel
theorem dX3_goByProc_39 : decode cX3_goByProc 39 = .ok (.aload_n 0, 1) := by decide +kernel
theorem dX3_goByProc_40 : decode cX3_goByProc 40 = .ok (.iconst 3, 1) := by decide +kernel
theorem dX3_goByProc_41 : decode cX3_goByProc 41 = .ok (.iload_n 3, 1) := by decide +kernel
theorem dX3_goByProc_42 : decode cX3_goByProc 42 = .ok (.invokevirtual 120, 3) := by decide +kernel
theorem dX3_goByProc_45 : decode cX3_goByProc 45 = .ok (.goto 81, 3) := by decide +kernel
theorem dX3_goByProc_126 : decode cX3_goByProc 126 = .ok (.return_, 1) := by decide +kernel
theorem dX3_goByProc_27 : decode cX3_goByProc 27 = .ok (.aload_n 0, 1) := by decide +kernel
theorem dX3_goByProc_28 : decode cX3_goByProc 28 = .ok (.getfield 62, 3) := by decide +kernel
theorem dX3_goByProc_31 : decode cX3_goByProc 31 = .ok (.iload 4, 2) := by decide +kernel
theorem dX3_goByProc_33 : decode cX3_goByProc 33 = .ok (.invokevirtual 231, 3) := by decide +kernel
theorem dX3_goByProc_36 : decode cX3_goByProc 36 = .ok (.ifCond .ne 12, 3) := by decide +kernel
theorem dX3_goByProc_48 : decode cX3_goByProc 48 = .ok (.aload_n 0, 1) := by decide +kernel
theorem dX3_goByProc_49 : decode cX3_goByProc 49 = .ok (.getfield 66, 3) := by decide +kernel
theorem dX3_goByProc_52 : decode cX3_goByProc 52 = .ok (.iload_n 3, 1) := by decide +kernel
theorem dX3_goByProc_53 : decode cX3_goByProc 53 = .ok (.invokevirtual 258, 3) := by decide +kernel
theorem dX3_goByProc_56 : decode cX3_goByProc 56 = .ok (.aload_n 0, 1) := by decide +kernel
theorem dX3_goByProc_57 : decode cX3_goByProc 57 = .ok (.getfield 62, 3) := by decide +kernel
theorem dX3_goByProc_60 : decode cX3_goByProc 60 = .ok (.getfield 261, 3) := by decide +kernel
theorem dX3_goByProc_63 : decode cX3_goByProc 63 = .ok (.iload 4, 2) := by decide +kernel
theorem dX3_goByProc_65 : decode cX3_goByProc 65 = .ok (.iaload, 1) := by decide +kernel
theorem dX3_goByProc_66 : decode cX3_goByProc 66 = .ok (.if_icmp .eq 12, 3) := by decide +kernel
theorem dX3_goByProc_78 : decode cX3_goByProc 78 = .ok (.aload_n 0, 1) := by decide +kernel
theorem dX3_goByProc_79 : decode cX3_goByProc 79 = .ok (.getfield 55, 3) := by decide +kernel
theorem dX3_goByProc_82 : decode cX3_goByProc 82 = .ok (.aload_n 0, 1) := by decide +kernel
theorem dX3_goByProc_83 : decode cX3_goByProc 83 = .ok (.getfield 43, 3) := by decide +kernel
theorem dX3_goByProc_86 : decode cX3_goByProc 86 = .ok (.if_icmp .lt 13, 3) := by decide +kernel
theorem dX3_goByProc_99 : decode cX3_goByProc 99 = .ok (.aload_n 0, 1) := by decide +kernel
theorem dX3_goByProc_100 : decode cX3_goByProc 100 = .ok (.aload_n 0, 1) := by decide +kernel
theorem dX3_goByProc_101 : decode cX3_goByProc 101 = .ok (.getfield 46, 3) := by decide +kernel
theorem dX3_goByProc_104 : decode cX3_goByProc 104 = .ok (.aload_n 0, 1) := by decide +kernel
theorem dX3_goByProc_105 : decode cX3_goByProc 105 = .ok (.getfield 52, 3) := by decide +kernel
theorem dX3_goByProc_108 : decode cX3_goByProc 108 = .ok (.invokevirtual 89, 3) := by decide +kernel
theorem dX3_goByProc_111 : decode cX3_goByProc 111 = .ok (.aload_n 0, 1) := by decide +kernel
theorem dX3_goByProc_112 : decode cX3_goByProc 112 = .ok (.iload 4, 2) := by decide +kernel
