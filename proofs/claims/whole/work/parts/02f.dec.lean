theorem dX7_goes_106 : decode cX7_goes 106 = .ok (.iload 4, 2) := by decide +kernel
theorem dX7_goes_108 : decode cX7_goes 108 = .ok (.iload_n 2, 1) := by decide +kernel
theorem dX7_goes_109 : decode cX7_goes 109 = .ok (.iload_n 3, 1) := by decide +kernel
theorem dX7_goes_110 : decode cX7_goes 110 = .ok (.invokevirtual 172, 3) := by decide +kernel
theorem dX7_goes_113 : decode cX7_goes 113 = .ok (.iinc 4 1, 3) := by decide +kernel
theorem dX7_goes_116 : decode cX7_goes 116 = .ok (.goto (-21), 3) := by decide +kernel
theorem dX7_goes_119 : decode cX7_goes 119 = .ok (.aload_n 0, 1) := by decide +kernel
theorem dX7_goes_120 : decode cX7_goes 120 = .ok (.getfield 13, 3) := by decide +kernel
theorem dX7_goes_123 : decode cX7_goes 123 = .ok (.sipush 440, 3) := by decide +kernel
theorem dX7_goes_126 : decode cX7_goes 126 = .ok (.iload_n 1, 1) := by decide +kernel
theorem dX7_goes_127 : decode cX7_goes 127 = .ok (.imul, 1) := by decide +kernel
theorem dX7_goes_128 : decode cX7_goes 128 = .ok (.sipush 426, 3) := by decide +kernel
theorem dX7_goes_131 : decode cX7_goes 131 = .ok (.iadd, 1) := by decide +kernel
theorem dX7_goes_132 : decode cX7_goes 132 = .ok (.iload_n 2, 1) := by decide +kernel
theorem dX7_goes_133 : decode cX7_goes 133 = .ok (.iastore, 1) := by decide +kernel
theorem dX7_goes_134 : decode cX7_goes 134 = .ok (.aload_n 0, 1) := by decide +kernel
theorem dX7_goes_135 : decode cX7_goes 135 = .ok (.getfield 13, 3) := by decide +kernel
theorem dX7_goes_138 : decode cX7_goes 138 = .ok (.sipush 440, 3) := by decide +kernel
theorem dX7_goes_141 : decode cX7_goes 141 = .ok (.iload_n 1, 1) := by decide +kernel
theorem dX7_goes_142 : decode cX7_goes 142 = .ok (.imul, 1) := by decide +kernel
theorem dX7_goes_143 : decode cX7_goes 143 = .ok (.sipush 427, 3) := by decide +kernel
theorem dX7_goes_146 : decode cX7_goes 146 = .ok (.iadd, 1) := by decide +kernel
theorem dX7_goes_147 : decode cX7_goes 147 = .ok (.iload_n 3, 1) := by decide +kernel
theorem dX7_goes_148 : decode cX7_goes 148 = .ok (.iastore, 1) := by decide +kernel
theorem dX7_goes_149 : decode cX7_goes 149 = .ok (.return_, 1) := by decide +kernel
theorem dX7_all_0 : decode cX7_all 0 = .ok (.iconst 0, 1) := by decide +kernel
theorem dX7_all_1 : decode cX7_all 1 = .ok (.istore_n 3, 1) := by decide +kernel
theorem dX7_all_2 : decode cX7_all 2 = .ok (.iconst 0, 1) := by decide +kernel
theorem dX7_all_3 : decode cX7_all 3 = .ok (.istore 4, 2) := by decide +kernel
theorem dX7_all_5 : decode cX7_all 5 = .ok (.iload 4, 2) := by decide +kernel
theorem dX7_all_7 : decode cX7_all 7 = .ok (.aload_n 0, 1) := by decide +kernel
theorem dX7_all_8 : decode cX7_all 8 = .ok (.getfield 56, 3) := by decide +kernel
theorem dX7_all_11 : decode cX7_all 11 = .ok (.if_icmp .ge 25, 3) := by decide +kernel
theorem dX7_all_14 : decode cX7_all 14 = .ok (.iload_n 3, 1) := by decide +kernel
theorem dX7_all_15 : decode cX7_all 15 = .ok (.aload_n 0, 1) := by decide +kernel
theorem dX7_all_16 : decode cX7_all 16 = .ok (.getfield 13, 3) := by decide +kernel
theorem dX7_all_19 : decode cX7_all 19 = .ok (.iload_n 1, 1) := by decide +kernel
theorem dX7_all_20 : decode cX7_all 20 = .ok (.iload 4, 2) := by decide +kernel
theorem dX7_all_22 : decode cX7_all 22 = .ok (.invokestatic 52, 3) := by decide +kernel
theorem dX7_all_25 : decode cX7_all 25 = .ok (.iload_n 2, 1) := by decide +kernel
theorem dX7_all_26 : decode cX7_all 26 = .ok (.iadd, 1) := by decide +kernel
theorem dX7_all_27 : decode cX7_all 27 = .ok (.iaload, 1) := by decide +kernel
theorem dX7_all_28 : decode cX7_all 28 = .ok (.iadd, 1) := by decide +kernel
theorem dX7_all_29 : decode cX7_all 29 = .ok (.istore_n 3, 1) := by decide +kernel
theorem dX7_all_30 : decode cX7_all 30 = .ok (.iinc 4 1, 3) := by decide +kernel
theorem dX7_all_33 : decode cX7_all 33 = .ok (.goto (-28), 3) := by decide +kernel
theorem dX7_all_36 : decode cX7_all 36 = .ok (.iload_n 3, 1) := by decide +kernel
theorem dX7_all_37 : decode cX7_all 37 = .ok (.ireturn, 1) := by decide +kernel
theorem dX7_keeps_0 : decode cX7_keeps 0 = .ok (.aload_n 0, 1) := by decide +kernel
theorem dX7_keeps_1 : decode cX7_keeps 1 = .ok (.getfield 75, 3) := by decide +kernel
theorem dX7_keeps_4 : decode cX7_keeps 4 = .ok (.iconst 4, 1) := by decide +kernel
theorem dX7_keeps_5 : decode cX7_keeps 5 = .ok (.if_icmp .ne 44, 3) := by decide +kernel
theorem dX7_keeps_8 : decode cX7_keeps 8 = .ok (.iconst 0, 1) := by decide +kernel
theorem dX7_keeps_9 : decode cX7_keeps 9 = .ok (.istore_n 1, 1) := by decide +kernel
theorem dX7_keeps_10 : decode cX7_keeps 10 = .ok (.iload_n 1, 1) := by decide +kernel
theorem dX7_keeps_11 : decode cX7_keeps 11 = .ok (.sipush 1320, 3) := by decide +kernel
theorem dX7_keeps_14 : decode cX7_keeps 14 = .ok (.if_icmp .ge 25, 3) := by decide +kernel
theorem dX7_keeps_17 : decode cX7_keeps 17 = .ok (.aload_n 0, 1) := by decide +kernel
theorem dX7_keeps_18 : decode cX7_keeps 18 = .ok (.getfield 16, 3) := by decide +kernel
theorem dX7_keeps_21 : decode cX7_keeps 21 = .ok (.iload_n 1, 1) := by decide +kernel
theorem dX7_keeps_22 : decode cX7_keeps 22 = .ok (.aload_n 0, 1) := by decide +kernel
theorem dX7_keeps_23 : decode cX7_keeps 23 = .ok (.getfield 16, 3) := by decide +kernel
theorem dX7_keeps_26 : decode cX7_keeps 26 = .ok (.iload_n 1, 1) := by decide +kernel
theorem dX7_keeps_27 : decode cX7_keeps 27 = .ok (.sipush 440, 3) := by decide +kernel
theorem dX7_keeps_30 : decode cX7_keeps 30 = .ok (.iadd, 1) := by decide +kernel
theorem dX7_keeps_31 : decode cX7_keeps 31 = .ok (.iaload, 1) := by decide +kernel
theorem dX7_keeps_32 : decode cX7_keeps 32 = .ok (.iastore, 1) := by decide +kernel
theorem dX7_keeps_33 : decode cX7_keeps 33 = .ok (.iinc 1 1, 3) := by decide +kernel
theorem dX7_keeps_36 : decode cX7_keeps 36 = .ok (.goto (-26), 3) := by decide +kernel
theorem dX7_keeps_39 : decode cX7_keeps 39 = .ok (.aload_n 0, 1) := by decide +kernel
theorem dX7_keeps_40 : decode cX7_keeps 40 = .ok (.dup, 1) := by decide +kernel
theorem dX7_keeps_41 : decode cX7_keeps 41 = .ok (.getfield 75, 3) := by decide +kernel
theorem dX7_keeps_44 : decode cX7_keeps 44 = .ok (.iconst 1, 1) := by decide +kernel
theorem dX7_keeps_45 : decode cX7_keeps 45 = .ok (.isub, 1) := by decide +kernel
theorem dX7_keeps_46 : decode cX7_keeps 46 = .ok (.putfield 75, 3) := by decide +kernel
theorem dX7_keeps_49 : decode cX7_keeps 49 = .ok (.iconst 0, 1) := by decide +kernel
theorem dX7_keeps_50 : decode cX7_keeps 50 = .ok (.istore_n 1, 1) := by decide +kernel
theorem dX7_keeps_51 : decode cX7_keeps 51 = .ok (.iload_n 1, 1) := by decide +kernel
theorem dX7_keeps_52 : decode cX7_keeps 52 = .ok (.sipush 440, 3) := by decide +kernel
theorem dX7_keeps_55 : decode cX7_keeps 55 = .ok (.if_icmp .ge 30, 3) := by decide +kernel
theorem dX7_keeps_58 : decode cX7_keeps 58 = .ok (.aload_n 0, 1) := by decide +kernel
theorem dX7_keeps_59 : decode cX7_keeps 59 = .ok (.getfield 16, 3) := by decide +kernel
theorem dX7_keeps_62 : decode cX7_keeps 62 = .ok (.sipush 440, 3) := by decide +kernel
theorem dX7_keeps_65 : decode cX7_keeps 65 = .ok (.aload_n 0, 1) := by decide +kernel
theorem dX7_keeps_66 : decode cX7_keeps 66 = .ok (.getfield 75, 3) := by decide +kernel
theorem dX7_keeps_69 : decode cX7_keeps 69 = .ok (.imul, 1) := by decide +kernel
theorem dX7_keeps_70 : decode cX7_keeps 70 = .ok (.iload_n 1, 1) := by decide +kernel
theorem dX7_keeps_71 : decode cX7_keeps 71 = .ok (.iadd, 1) := by decide +kernel
theorem dX7_keeps_72 : decode cX7_keeps 72 = .ok (.aload_n 0, 1) := by decide +kernel
theorem dX7_keeps_73 : decode cX7_keeps 73 = .ok (.getfield 13, 3) := by decide +kernel
theorem dX7_keeps_76 : decode cX7_keeps 76 = .ok (.iload_n 1, 1) := by decide +kernel
theorem dX7_keeps_77 : decode cX7_keeps 77 = .ok (.iaload, 1) := by decide +kernel
theorem dX7_keeps_78 : decode cX7_keeps 78 = .ok (.iastore, 1) := by decide +kernel
theorem dX7_keeps_79 : decode cX7_keeps 79 = .ok (.iinc 1 1, 3) := by decide +kernel
theorem dX7_keeps_82 : decode cX7_keeps 82 = .ok (.goto (-31), 3) := by decide +kernel
theorem dX7_keeps_85 : decode cX7_keeps 85 = .ok (.aload_n 0, 1) := by decide +kernel
theorem dX7_keeps_86 : decode cX7_keeps 86 = .ok (.dup, 1) := by decide +kernel
theorem dX7_keeps_87 : decode cX7_keeps 87 = .ok (.getfield 75, 3) := by decide +kernel
theorem dX7_keeps_90 : decode cX7_keeps 90 = .ok (.iconst 1, 1) := by decide +kernel
theorem dX7_keeps_91 : decode cX7_keeps 91 = .ok (.iadd, 1) := by decide +kernel
theorem dX7_keeps_92 : decode cX7_keeps 92 = .ok (.putfield 75, 3) := by decide +kernel
theorem dX7_keeps_95 : decode cX7_keeps 95 = .ok (.return_, 1) := by decide +kernel
theorem dX7_undo_0 : decode cX7_undo 0 = .ok (.aload_n 0, 1) := by decide +kernel
theorem dX7_undo_1 : decode cX7_undo 1 = .ok (.getfield 75, 3) := by decide +kernel
theorem dX7_undo_4 : decode cX7_undo 4 = .ok (.ifCond .ne 6, 3) := by decide +kernel
theorem dX7_undo_7 : decode cX7_undo 7 = .ok (.bipush (-2), 2) := by decide +kernel
theorem dX7_undo_9 : decode cX7_undo 9 = .ok (.ireturn, 1) := by decide +kernel
theorem dX7_undo_10 : decode cX7_undo 10 = .ok (.aload_n 0, 1) := by decide +kernel
theorem dX7_undo_11 : decode cX7_undo 11 = .ok (.dup, 1) := by decide +kernel
theorem dX7_undo_12 : decode cX7_undo 12 = .ok (.getfield 75, 3) := by decide +kernel
theorem dX7_undo_15 : decode cX7_undo 15 = .ok (.iconst 1, 1) := by decide +kernel
theorem dX7_undo_16 : decode cX7_undo 16 = .ok (.isub, 1) := by decide +kernel
theorem dX7_undo_17 : decode cX7_undo 17 = .ok (.putfield 75, 3) := by decide +kernel
theorem dX7_undo_20 : decode cX7_undo 20 = .ok (.iconst 0, 1) := by decide +kernel
theorem dX7_undo_21 : decode cX7_undo 21 = .ok (.istore_n 1, 1) := by decide +kernel
theorem dX7_undo_22 : decode cX7_undo 22 = .ok (.iload_n 1, 1) := by decide +kernel
theorem dX7_undo_23 : decode cX7_undo 23 = .ok (.sipush 440, 3) := by decide +kernel
theorem dX7_undo_26 : decode cX7_undo 26 = .ok (.if_icmp .ge 30, 3) := by decide +kernel
theorem dX7_undo_29 : decode cX7_undo 29 = .ok (.aload_n 0, 1) := by decide +kernel
theorem dX7_undo_30 : decode cX7_undo 30 = .ok (.getfield 13, 3) := by decide +kernel
theorem dX7_undo_33 : decode cX7_undo 33 = .ok (.iload_n 1, 1) := by decide +kernel
theorem dX7_undo_34 : decode cX7_undo 34 = .ok (.aload_n 0, 1) := by decide +kernel
theorem dX7_undo_35 : decode cX7_undo 35 = .ok (.getfield 16, 3) := by decide +kernel
theorem dX7_undo_38 : decode cX7_undo 38 = .ok (.sipush 440, 3) := by decide +kernel
theorem dX7_undo_41 : decode cX7_undo 41 = .ok (.aload_n 0, 1) := by decide +kernel
theorem dX7_undo_42 : decode cX7_undo 42 = .ok (.getfield 75, 3) := by decide +kernel
theorem dX7_undo_45 : decode cX7_undo 45 = .ok (.imul, 1) := by decide +kernel
theorem dX7_undo_46 : decode cX7_undo 46 = .ok (.iload_n 1, 1) := by decide +kernel
theorem dX7_undo_47 : decode cX7_undo 47 = .ok (.iadd, 1) := by decide +kernel
theorem dX7_undo_48 : decode cX7_undo 48 = .ok (.iaload, 1) := by decide +kernel
theorem dX7_undo_49 : decode cX7_undo 49 = .ok (.iastore, 1) := by decide +kernel
theorem dX7_undo_50 : decode cX7_undo 50 = .ok (.iinc 1 1, 3) := by decide +kernel
theorem dX7_undo_53 : decode cX7_undo 53 = .ok (.goto (-31), 3) := by decide +kernel
theorem dX7_undo_56 : decode cX7_undo 56 = .ok (.aload_n 0, 1) := by decide +kernel
theorem dX7_undo_57 : decode cX7_undo 57 = .ok (.getfield 75, 3) := by decide +kernel
theorem dX7_undo_60 : decode cX7_undo 60 = .ok (.ireturn, 1) := by decide +kernel
theorem dX7_isStation_0 : decode cX7_isStation 0 = .ok (.iload_n 1, 1) := by decide +kernel
theorem dX7_isStation_1 : decode cX7_isStation 1 = .ok (.iconst 0, 1) := by decide +kernel
theorem dX7_isStation_2 : decode cX7_isStation 2 = .ok (.aload_n 0, 1) := by decide +kernel
theorem dX7_isStation_3 : decode cX7_isStation 3 = .ok (.getfield 56, 3) := by decide +kernel
theorem dX7_isStation_6 : decode cX7_isStation 6 = .ok (.iconst 1, 1) := by decide +kernel
theorem dX7_isStation_7 : decode cX7_isStation 7 = .ok (.isub, 1) := by decide +kernel
theorem dX7_isStation_8 : decode cX7_isStation 8 = .ok (.invokestatic 94, 3) := by decide +kernel
theorem dX7_isStation_11 : decode cX7_isStation 11 = .ok (.ireturn, 1) := by decide +kernel
theorem dX7_areTwo_0 : decode cX7_areTwo 0 = .ok (.aload_n 0, 1) := by decide +kernel
theorem dX7_areTwo_1 : decode cX7_areTwo 1 = .ok (.iload_n 1, 1) := by decide +kernel
theorem dX7_areTwo_2 : decode cX7_areTwo 2 = .ok (.invokevirtual 175, 3) := by decide +kernel
theorem dX7_areTwo_5 : decode cX7_areTwo 5 = .ok (.ifCond .eq 20, 3) := by decide +kernel
theorem dX7_areTwo_8 : decode cX7_areTwo 8 = .ok (.aload_n 0, 1) := by decide +kernel
theorem dX7_areTwo_9 : decode cX7_areTwo 9 = .ok (.iload_n 2, 1) := by decide +kernel
theorem dX7_areTwo_10 : decode cX7_areTwo 10 = .ok (.invokevirtual 175, 3) := by decide +kernel
theorem dX7_areTwo_13 : decode cX7_areTwo 13 = .ok (.ifCond .eq 12, 3) := by decide +kernel
theorem dX7_areTwo_16 : decode cX7_areTwo 16 = .ok (.iload_n 1, 1) := by decide +kernel
theorem dX7_areTwo_17 : decode cX7_areTwo 17 = .ok (.iload_n 2, 1) := by decide +kernel
theorem dX7_areTwo_18 : decode cX7_areTwo 18 = .ok (.if_icmp .eq 7, 3) := by decide +kernel
theorem dX7_areTwo_21 : decode cX7_areTwo 21 = .ok (.iconst 1, 1) := by decide +kernel
theorem dX7_areTwo_22 : decode cX7_areTwo 22 = .ok (.goto 4, 3) := by decide +kernel
theorem dX7_areTwo_25 : decode cX7_areTwo 25 = .ok (.iconst 0, 1) := by decide +kernel
theorem dX7_areTwo_26 : decode cX7_areTwo 26 = .ok (.ireturn, 1) := by decide +kernel
theorem dX7_letter_0 : decode cX7_letter 0 = .ok (.aload_n 0, 1) := by decide +kernel
theorem dX7_letter_1 : decode cX7_letter 1 = .ok (.iload_n 1, 1) := by decide +kernel
theorem dX7_letter_2 : decode cX7_letter 2 = .ok (.iload_n 2, 1) := by decide +kernel
theorem dX7_letter_3 : decode cX7_letter 3 = .ok (.invokevirtual 178, 3) := by decide +kernel
theorem dX7_letter_6 : decode cX7_letter 6 = .ok (.ifCond .eq 13, 3) := by decide +kernel
theorem dX7_letter_9 : decode cX7_letter 9 = .ok (.iload_n 3, 1) := by decide +kernel
theorem dX7_letter_10 : decode cX7_letter 10 = .ok (.iconst 1, 1) := by decide +kernel
theorem dX7_letter_11 : decode cX7_letter 11 = .ok (.bipush 9, 2) := by decide +kernel
theorem dX7_letter_13 : decode cX7_letter 13 = .ok (.invokestatic 94, 3) := by decide +kernel
theorem dX7_letter_16 : decode cX7_letter 16 = .ok (.ifCond .ne 5, 3) := by decide +kernel
theorem dX7_letter_19 : decode cX7_letter 19 = .ok (.iconst (-1), 1) := by decide +kernel
theorem dX7_letter_20 : decode cX7_letter 20 = .ok (.ireturn, 1) := by decide +kernel
theorem dX7_letter_21 : decode cX7_letter 21 = .ok (.aload_n 0, 1) := by decide +kernel
theorem dX7_letter_22 : decode cX7_letter 22 = .ok (.getfield 13, 3) := by decide +kernel
theorem dX7_letter_25 : decode cX7_letter 25 = .ok (.sipush 420, 3) := by decide +kernel
theorem dX7_letter_28 : decode cX7_letter 28 = .ok (.iload_n 1, 1) := by decide +kernel
theorem dX7_letter_29 : decode cX7_letter 29 = .ok (.iadd, 1) := by decide +kernel
theorem dX7_letter_30 : decode cX7_letter 30 = .ok (.iaload, 1) := by decide +kernel
theorem dX7_letter_31 : decode cX7_letter 31 = .ok (.iload_n 2, 1) := by decide +kernel
theorem dX7_letter_32 : decode cX7_letter 32 = .ok (.invokestatic 105, 3) := by decide +kernel
theorem dX7_letter_35 : decode cX7_letter 35 = .ok (.ifCond .ne 6, 3) := by decide +kernel
theorem dX7_letter_38 : decode cX7_letter 38 = .ok (.bipush (-2), 2) := by decide +kernel
theorem dX7_letter_40 : decode cX7_letter 40 = .ok (.ireturn, 1) := by decide +kernel
theorem dX7_letter_41 : decode cX7_letter 41 = .ok (.aload_n 0, 1) := by decide +kernel
theorem dX7_letter_42 : decode cX7_letter 42 = .ok (.getfield 13, 3) := by decide +kernel
theorem dX7_letter_45 : decode cX7_letter 45 = .ok (.iconst 0, 1) := by decide +kernel
theorem dX7_letter_46 : decode cX7_letter 46 = .ok (.iload_n 1, 1) := by decide +kernel
theorem dX7_letter_47 : decode cX7_letter 47 = .ok (.invokestatic 52, 3) := by decide +kernel
theorem dX7_letter_50 : decode cX7_letter 50 = .ok (.bipush 8, 2) := by decide +kernel
theorem dX7_letter_52 : decode cX7_letter 52 = .ok (.iadd, 1) := by decide +kernel
theorem dX7_letter_53 : decode cX7_letter 53 = .ok (.iaload, 1) := by decide +kernel
theorem dX7_letter_54 : decode cX7_letter 54 = .ok (.bipush 6, 2) := by decide +kernel
theorem dX7_letter_56 : decode cX7_letter 56 = .ok (.if_icmp .ne 6, 3) := by decide +kernel
theorem dX7_letter_59 : decode cX7_letter 59 = .ok (.bipush (-3), 2) := by decide +kernel
theorem dX7_letter_61 : decode cX7_letter 61 = .ok (.ireturn, 1) := by decide +kernel
theorem dX7_letter_62 : decode cX7_letter 62 = .ok (.aload_n 0, 1) := by decide +kernel
theorem dX7_letter_63 : decode cX7_letter 63 = .ok (.invokevirtual 181, 3) := by decide +kernel
theorem dX7_letter_66 : decode cX7_letter 66 = .ok (.aload_n 0, 1) := by decide +kernel
theorem dX7_letter_67 : decode cX7_letter 67 = .ok (.iconst 0, 1) := by decide +kernel
theorem dX7_letter_68 : decode cX7_letter 68 = .ok (.iload_n 1, 1) := by decide +kernel
theorem dX7_letter_69 : decode cX7_letter 69 = .ok (.iload_n 2, 1) := by decide +kernel
theorem dX7_letter_70 : decode cX7_letter 70 = .ok (.iload_n 3, 1) := by decide +kernel
theorem dX7_letter_71 : decode cX7_letter 71 = .ok (.invokevirtual 45, 3) := by decide +kernel
theorem dX7_letter_74 : decode cX7_letter 74 = .ok (.aload_n 0, 1) := by decide +kernel
theorem dX7_letter_75 : decode cX7_letter 75 = .ok (.getfield 13, 3) := by decide +kernel
theorem dX7_letter_78 : decode cX7_letter 78 = .ok (.iconst 0, 1) := by decide +kernel
theorem dX7_letter_79 : decode cX7_letter 79 = .ok (.iload_n 1, 1) := by decide +kernel
theorem dX7_letter_80 : decode cX7_letter 80 = .ok (.invokestatic 52, 3) := by decide +kernel
theorem dX7_letter_83 : decode cX7_letter 83 = .ok (.bipush 8, 2) := by decide +kernel
theorem dX7_letter_85 : decode cX7_letter 85 = .ok (.iadd, 1) := by decide +kernel
theorem dX7_letter_86 : decode cX7_letter 86 = .ok (.iaload, 1) := by decide +kernel
theorem dX7_letter_87 : decode cX7_letter 87 = .ok (.iconst 1, 1) := by decide +kernel
theorem dX7_letter_88 : decode cX7_letter 88 = .ok (.if_icmp .ne 9, 3) := by decide +kernel
theorem dX7_letter_91 : decode cX7_letter 91 = .ok (.aload_n 0, 1) := by decide +kernel
theorem dX7_letter_92 : decode cX7_letter 92 = .ok (.iconst 0, 1) := by decide +kernel
theorem dX7_letter_93 : decode cX7_letter 93 = .ok (.iload_n 1, 1) := by decide +kernel
theorem dX7_letter_94 : decode cX7_letter 94 = .ok (.invokevirtual 78, 3) := by decide +kernel
theorem dX7_letter_97 : decode cX7_letter 97 = .ok (.aload_n 0, 1) := by decide +kernel
theorem dX7_letter_98 : decode cX7_letter 98 = .ok (.getfield 13, 3) := by decide +kernel
theorem dX7_letter_101 : decode cX7_letter 101 = .ok (.iconst 0, 1) := by decide +kernel
theorem dX7_letter_102 : decode cX7_letter 102 = .ok (.iload_n 1, 1) := by decide +kernel
theorem dX7_letter_103 : decode cX7_letter 103 = .ok (.invokestatic 52, 3) := by decide +kernel
theorem dX7_letter_106 : decode cX7_letter 106 = .ok (.bipush 8, 2) := by decide +kernel
theorem dX7_letter_108 : decode cX7_letter 108 = .ok (.iadd, 1) := by decide +kernel
theorem dX7_letter_109 : decode cX7_letter 109 = .ok (.iaload, 1) := by decide +kernel
theorem dX7_letter_110 : decode cX7_letter 110 = .ok (.ireturn, 1) := by decide +kernel
theorem dX7_hasFor_0 : decode cX7_hasFor 0 = .ok (.iconst 0, 1) := by decide +kernel
theorem dX7_hasFor_1 : decode cX7_hasFor 1 = .ok (.istore_n 3, 1) := by decide +kernel
theorem dX7_hasFor_2 : decode cX7_hasFor 2 = .ok (.iconst 0, 1) := by decide +kernel
theorem dX7_hasFor_3 : decode cX7_hasFor 3 = .ok (.istore 4, 2) := by decide +kernel
theorem dX7_hasFor_5 : decode cX7_hasFor 5 = .ok (.iload 4, 2) := by decide +kernel
theorem dX7_hasFor_7 : decode cX7_hasFor 7 = .ok (.aload_n 0, 1) := by decide +kernel
theorem dX7_hasFor_8 : decode cX7_hasFor 8 = .ok (.getfield 13, 3) := by decide +kernel
theorem dX7_hasFor_11 : decode cX7_hasFor 11 = .ok (.iconst 0, 1) := by decide +kernel
theorem dX7_hasFor_12 : decode cX7_hasFor 12 = .ok (.iload_n 1, 1) := by decide +kernel
theorem dX7_hasFor_13 : decode cX7_hasFor 13 = .ok (.invokestatic 52, 3) := by decide +kernel
theorem dX7_hasFor_16 : decode cX7_hasFor 16 = .ok (.bipush 8, 2) := by decide +kernel
theorem dX7_hasFor_18 : decode cX7_hasFor 18 = .ok (.iadd, 1) := by decide +kernel
theorem dX7_hasFor_19 : decode cX7_hasFor 19 = .ok (.iaload, 1) := by decide +kernel
theorem dX7_hasFor_20 : decode cX7_hasFor 20 = .ok (.if_icmp .ge 41, 3) := by decide +kernel
theorem dX7_hasFor_23 : decode cX7_hasFor 23 = .ok (.iload_n 3, 1) := by decide +kernel
theorem dX7_hasFor_24 : decode cX7_hasFor 24 = .ok (.ifCond .ne 25, 3) := by decide +kernel
theorem dX7_hasFor_27 : decode cX7_hasFor 27 = .ok (.aload_n 0, 1) := by decide +kernel
theorem dX7_hasFor_28 : decode cX7_hasFor 28 = .ok (.getfield 13, 3) := by decide +kernel
theorem dX7_hasFor_31 : decode cX7_hasFor 31 = .ok (.iconst 0, 1) := by decide +kernel
theorem dX7_hasFor_32 : decode cX7_hasFor 32 = .ok (.iload_n 1, 1) := by decide +kernel
theorem dX7_hasFor_33 : decode cX7_hasFor 33 = .ok (.invokestatic 52, 3) := by decide +kernel
theorem dX7_hasFor_36 : decode cX7_hasFor 36 = .ok (.bipush 9, 2) := by decide +kernel
theorem dX7_hasFor_38 : decode cX7_hasFor 38 = .ok (.iadd, 1) := by decide +kernel
theorem dX7_hasFor_39 : decode cX7_hasFor 39 = .ok (.iconst 2, 1) := by decide +kernel
theorem dX7_hasFor_40 : decode cX7_hasFor 40 = .ok (.iload 4, 2) := by decide +kernel
theorem dX7_hasFor_42 : decode cX7_hasFor 42 = .ok (.imul, 1) := by decide +kernel
theorem dX7_hasFor_43 : decode cX7_hasFor 43 = .ok (.iadd, 1) := by decide +kernel
theorem dX7_hasFor_44 : decode cX7_hasFor 44 = .ok (.iaload, 1) := by decide +kernel
theorem dX7_hasFor_45 : decode cX7_hasFor 45 = .ok (.iload_n 2, 1) := by decide +kernel
theorem dX7_hasFor_46 : decode cX7_hasFor 46 = .ok (.if_icmp .ne 7, 3) := by decide +kernel
theorem dX7_hasFor_49 : decode cX7_hasFor 49 = .ok (.iconst 1, 1) := by decide +kernel
theorem dX7_hasFor_50 : decode cX7_hasFor 50 = .ok (.goto 4, 3) := by decide +kernel
theorem dX7_hasFor_53 : decode cX7_hasFor 53 = .ok (.iconst 0, 1) := by decide +kernel
theorem dX7_hasFor_54 : decode cX7_hasFor 54 = .ok (.istore_n 3, 1) := by decide +kernel
theorem dX7_hasFor_55 : decode cX7_hasFor 55 = .ok (.iinc 4 1, 3) := by decide +kernel
theorem dX7_hasFor_58 : decode cX7_hasFor 58 = .ok (.goto (-53), 3) := by decide +kernel
theorem dX7_hasFor_61 : decode cX7_hasFor 61 = .ok (.iload_n 3, 1) := by decide +kernel
theorem dX7_hasFor_62 : decode cX7_hasFor 62 = .ok (.ireturn, 1) := by decide +kernel
theorem dX7_pairs_0 : decode cX7_pairs 0 = .ok (.iconst 0, 1) := by decide +kernel
theorem dX7_pairs_1 : decode cX7_pairs 1 = .ok (.istore_n 2, 1) := by decide +kernel
theorem dX7_pairs_2 : decode cX7_pairs 2 = .ok (.iconst 0, 1) := by decide +kernel
theorem dX7_pairs_3 : decode cX7_pairs 3 = .ok (.istore_n 3, 1) := by decide +kernel
theorem dX7_pairs_4 : decode cX7_pairs 4 = .ok (.iload_n 3, 1) := by decide +kernel
theorem dX7_pairs_5 : decode cX7_pairs 5 = .ok (.aload_n 0, 1) := by decide +kernel
theorem dX7_pairs_6 : decode cX7_pairs 6 = .ok (.getfield 56, 3) := by decide +kernel
theorem dX7_pairs_9 : decode cX7_pairs 9 = .ok (.if_icmp .ge 43, 3) := by decide +kernel
theorem dX7_pairs_12 : decode cX7_pairs 12 = .ok (.iconst 0, 1) := by decide +kernel
theorem dX7_pairs_13 : decode cX7_pairs 13 = .ok (.istore 4, 2) := by decide +kernel
theorem dX7_pairs_15 : decode cX7_pairs 15 = .ok (.iload 4, 2) := by decide +kernel
theorem dX7_pairs_17 : decode cX7_pairs 17 = .ok (.iload_n 3, 1) := by decide +kernel
theorem dX7_pairs_18 : decode cX7_pairs 18 = .ok (.if_icmp .ge 28, 3) := by decide +kernel
theorem dX7_pairs_21 : decode cX7_pairs 21 = .ok (.iload_n 2, 1) := by decide +kernel
theorem dX7_pairs_22 : decode cX7_pairs 22 = .ok (.aload_n 0, 1) := by decide +kernel
theorem dX7_pairs_23 : decode cX7_pairs 23 = .ok (.iload_n 3, 1) := by decide +kernel
theorem dX7_pairs_24 : decode cX7_pairs 24 = .ok (.iload 4, 2) := by decide +kernel
theorem dX7_pairs_26 : decode cX7_pairs 26 = .ok (.invokevirtual 184, 3) := by decide +kernel
theorem dX7_pairs_29 : decode cX7_pairs 29 = .ok (.iload_n 1, 1) := by decide +kernel
theorem dX7_pairs_30 : decode cX7_pairs 30 = .ok (.if_icmp .ne 7, 3) := by decide +kernel
theorem dX7_pairs_33 : decode cX7_pairs 33 = .ok (.iconst 1, 1) := by decide +kernel
theorem dX7_pairs_34 : decode cX7_pairs 34 = .ok (.goto 4, 3) := by decide +kernel
theorem dX7_pairs_37 : decode cX7_pairs 37 = .ok (.iconst 0, 1) := by decide +kernel
theorem dX7_pairs_38 : decode cX7_pairs 38 = .ok (.iadd, 1) := by decide +kernel
theorem dX7_pairs_39 : decode cX7_pairs 39 = .ok (.istore_n 2, 1) := by decide +kernel
theorem dX7_pairs_40 : decode cX7_pairs 40 = .ok (.iinc 4 1, 3) := by decide +kernel
theorem dX7_pairs_43 : decode cX7_pairs 43 = .ok (.goto (-28), 3) := by decide +kernel
theorem dX7_pairs_46 : decode cX7_pairs 46 = .ok (.iinc 3 1, 3) := by decide +kernel
theorem dX7_pairs_49 : decode cX7_pairs 49 = .ok (.goto (-45), 3) := by decide +kernel
theorem dX7_pairs_52 : decode cX7_pairs 52 = .ok (.iload_n 2, 1) := by decide +kernel
theorem dX7_pairs_53 : decode cX7_pairs 53 = .ok (.ireturn, 1) := by decide +kernel
theorem dX7_pairOf_0 : decode cX7_pairOf 0 = .ok (.aload_n 0, 1) := by decide +kernel
theorem dX7_pairOf_1 : decode cX7_pairOf 1 = .ok (.getfield 13, 3) := by decide +kernel
theorem dX7_pairOf_4 : decode cX7_pairOf 4 = .ok (.sipush 420, 3) := by decide +kernel
theorem dX7_pairOf_7 : decode cX7_pairOf 7 = .ok (.iload_n 1, 1) := by decide +kernel
theorem dX7_pairOf_8 : decode cX7_pairOf 8 = .ok (.iadd, 1) := by decide +kernel
theorem dX7_pairOf_9 : decode cX7_pairOf 9 = .ok (.iaload, 1) := by decide +kernel
theorem dX7_pairOf_10 : decode cX7_pairOf 10 = .ok (.iload_n 2, 1) := by decide +kernel
theorem dX7_pairOf_11 : decode cX7_pairOf 11 = .ok (.invokestatic 105, 3) := by decide +kernel
theorem dX7_pairOf_14 : decode cX7_pairOf 14 = .ok (.ifCond .eq 7, 3) := by decide +kernel
theorem dX7_pairOf_17 : decode cX7_pairOf 17 = .ok (.iconst 0, 1) := by decide +kernel
theorem dX7_pairOf_18 : decode cX7_pairOf 18 = .ok (.goto 32, 3) := by decide +kernel
theorem dX7_pairOf_21 : decode cX7_pairOf 21 = .ok (.aload_n 0, 1) := by decide +kernel
theorem dX7_pairOf_22 : decode cX7_pairOf 22 = .ok (.getfield 13, 3) := by decide +kernel
theorem dX7_pairOf_25 : decode cX7_pairOf 25 = .ok (.sipush 420, 3) := by decide +kernel
theorem dX7_pairOf_28 : decode cX7_pairOf 28 = .ok (.iload_n 1, 1) := by decide +kernel
theorem dX7_pairOf_29 : decode cX7_pairOf 29 = .ok (.iadd, 1) := by decide +kernel
theorem dX7_pairOf_30 : decode cX7_pairOf 30 = .ok (.iaload, 1) := by decide +kernel
theorem dX7_pairOf_31 : decode cX7_pairOf 31 = .ok (.aload_n 0, 1) := by decide +kernel
theorem dX7_pairOf_32 : decode cX7_pairOf 32 = .ok (.getfield 13, 3) := by decide +kernel
theorem dX7_pairOf_35 : decode cX7_pairOf 35 = .ok (.sipush 420, 3) := by decide +kernel
theorem dX7_pairOf_38 : decode cX7_pairOf 38 = .ok (.iload_n 2, 1) := by decide +kernel
theorem dX7_pairOf_39 : decode cX7_pairOf 39 = .ok (.iadd, 1) := by decide +kernel
theorem dX7_pairOf_40 : decode cX7_pairOf 40 = .ok (.iaload, 1) := by decide +kernel
theorem dX7_pairOf_41 : decode cX7_pairOf 41 = .ok (.iand, 1) := by decide +kernel
theorem dX7_pairOf_42 : decode cX7_pairOf 42 = .ok (.ifCond .eq 7, 3) := by decide +kernel
theorem dX7_pairOf_45 : decode cX7_pairOf 45 = .ok (.iconst 1, 1) := by decide +kernel
theorem dX7_pairOf_46 : decode cX7_pairOf 46 = .ok (.goto 4, 3) := by decide +kernel
theorem dX7_pairOf_49 : decode cX7_pairOf 49 = .ok (.iconst 2, 1) := by decide +kernel
theorem dX7_pairOf_50 : decode cX7_pairOf 50 = .ok (.ireturn, 1) := by decide +kernel
theorem dX7_hear_0 : decode cX7_hear 0 = .ok (.aload_n 0, 1) := by decide +kernel
theorem dX7_hear_1 : decode cX7_hear 1 = .ok (.iload_n 1, 1) := by decide +kernel
theorem dX7_hear_2 : decode cX7_hear 2 = .ok (.iload_n 2, 1) := by decide +kernel
theorem dX7_hear_3 : decode cX7_hear 3 = .ok (.invokevirtual 178, 3) := by decide +kernel
theorem dX7_hear_6 : decode cX7_hear 6 = .ok (.ifCond .eq 12, 3) := by decide +kernel
theorem dX7_hear_9 : decode cX7_hear 9 = .ok (.iload_n 3, 1) := by decide +kernel
theorem dX7_hear_10 : decode cX7_hear 10 = .ok (.iconst 0, 1) := by decide +kernel
theorem dX7_hear_11 : decode cX7_hear 11 = .ok (.iconst 1, 1) := by decide +kernel
theorem dX7_hear_12 : decode cX7_hear 12 = .ok (.invokestatic 94, 3) := by decide +kernel
theorem dX7_hear_15 : decode cX7_hear 15 = .ok (.ifCond .ne 5, 3) := by decide +kernel
theorem dX7_hear_18 : decode cX7_hear 18 = .ok (.iconst (-1), 1) := by decide +kernel
theorem dX7_hear_19 : decode cX7_hear 19 = .ok (.ireturn, 1) := by decide +kernel
theorem dX7_hear_20 : decode cX7_hear 20 = .ok (.aload_n 0, 1) := by decide +kernel
theorem dX7_hear_21 : decode cX7_hear 21 = .ok (.getfield 13, 3) := by decide +kernel
theorem dX7_hear_24 : decode cX7_hear 24 = .ok (.sipush 420, 3) := by decide +kernel
theorem dX7_hear_27 : decode cX7_hear 27 = .ok (.iload_n 1, 1) := by decide +kernel
theorem dX7_hear_28 : decode cX7_hear 28 = .ok (.iadd, 1) := by decide +kernel
theorem dX7_hear_29 : decode cX7_hear 29 = .ok (.iaload, 1) := by decide +kernel
theorem dX7_hear_30 : decode cX7_hear 30 = .ok (.iload_n 2, 1) := by decide +kernel
theorem dX7_hear_31 : decode cX7_hear 31 = .ok (.invokestatic 105, 3) := by decide +kernel
theorem dX7_hear_34 : decode cX7_hear 34 = .ok (.iload_n 3, 1) := by decide +kernel
theorem dX7_hear_35 : decode cX7_hear 35 = .ok (.iconst 1, 1) := by decide +kernel
theorem dX7_hear_36 : decode cX7_hear 36 = .ok (.if_icmp .ne 7, 3) := by decide +kernel
theorem dX7_hear_39 : decode cX7_hear 39 = .ok (.iconst 1, 1) := by decide +kernel
theorem dX7_hear_40 : decode cX7_hear 40 = .ok (.goto 4, 3) := by decide +kernel
theorem dX7_hear_43 : decode cX7_hear 43 = .ok (.iconst 0, 1) := by decide +kernel
theorem dX7_hear_44 : decode cX7_hear 44 = .ok (.if_icmp .eq 25, 3) := by decide +kernel
theorem dX7_hear_47 : decode cX7_hear 47 = .ok (.iload_n 3, 1) := by decide +kernel
theorem dX7_hear_48 : decode cX7_hear 48 = .ok (.ifCond .ne 24, 3) := by decide +kernel
theorem dX7_hear_51 : decode cX7_hear 51 = .ok (.aload_n 0, 1) := by decide +kernel
theorem dX7_hear_52 : decode cX7_hear 52 = .ok (.iload_n 1, 1) := by decide +kernel
theorem dX7_hear_53 : decode cX7_hear 53 = .ok (.iload_n 2, 1) := by decide +kernel
theorem dX7_hear_54 : decode cX7_hear 54 = .ok (.invokevirtual 187, 3) := by decide +kernel
theorem dX7_hear_57 : decode cX7_hear 57 = .ok (.ifCond .ne 12, 3) := by decide +kernel
theorem dX7_hear_60 : decode cX7_hear 60 = .ok (.aload_n 0, 1) := by decide +kernel
theorem dX7_hear_61 : decode cX7_hear 61 = .ok (.iload_n 2, 1) := by decide +kernel
theorem dX7_hear_62 : decode cX7_hear 62 = .ok (.iload_n 1, 1) := by decide +kernel
theorem dX7_hear_63 : decode cX7_hear 63 = .ok (.invokevirtual 187, 3) := by decide +kernel
theorem dX7_hear_66 : decode cX7_hear 66 = .ok (.ifCond .eq 6, 3) := by decide +kernel
theorem dX7_hear_69 : decode cX7_hear 69 = .ok (.bipush (-2), 2) := by decide +kernel
theorem dX7_hear_71 : decode cX7_hear 71 = .ok (.ireturn, 1) := by decide +kernel
theorem dX7_hear_72 : decode cX7_hear 72 = .ok (.aload_n 0, 1) := by decide +kernel
theorem dX7_hear_73 : decode cX7_hear 73 = .ok (.invokevirtual 181, 3) := by decide +kernel
theorem dX7_hear_76 : decode cX7_hear 76 = .ok (.aload_n 0, 1) := by decide +kernel
theorem dX7_hear_77 : decode cX7_hear 77 = .ok (.getfield 13, 3) := by decide +kernel
theorem dX7_hear_80 : decode cX7_hear 80 = .ok (.sipush 420, 3) := by decide +kernel
theorem dX7_hear_83 : decode cX7_hear 83 = .ok (.iload_n 1, 1) := by decide +kernel
theorem dX7_hear_84 : decode cX7_hear 84 = .ok (.iadd, 1) := by decide +kernel
theorem dX7_hear_85 : decode cX7_hear 85 = .ok (.dup2, 1) := by decide +kernel
theorem dX7_hear_86 : decode cX7_hear 86 = .ok (.iaload, 1) := by decide +kernel
theorem dX7_hear_87 : decode cX7_hear 87 = .ok (.iconst 1, 1) := by decide +kernel
theorem dX7_hear_88 : decode cX7_hear 88 = .ok (.iload_n 2, 1) := by decide +kernel
theorem dX7_hear_89 : decode cX7_hear 89 = .ok (.ishl, 1) := by decide +kernel
theorem dX7_hear_90 : decode cX7_hear 90 = .ok (.ixor, 1) := by decide +kernel
theorem dX7_hear_91 : decode cX7_hear 91 = .ok (.iastore, 1) := by decide +kernel
theorem dX7_hear_92 : decode cX7_hear 92 = .ok (.aload_n 0, 1) := by decide +kernel
theorem dX7_hear_93 : decode cX7_hear 93 = .ok (.getfield 13, 3) := by decide +kernel
theorem dX7_hear_96 : decode cX7_hear 96 = .ok (.sipush 420, 3) := by decide +kernel
theorem dX7_hear_99 : decode cX7_hear 99 = .ok (.iload_n 2, 1) := by decide +kernel
theorem dX7_hear_100 : decode cX7_hear 100 = .ok (.iadd, 1) := by decide +kernel
theorem dX7_hear_101 : decode cX7_hear 101 = .ok (.dup2, 1) := by decide +kernel
theorem dX7_hear_102 : decode cX7_hear 102 = .ok (.iaload, 1) := by decide +kernel
theorem dX7_hear_103 : decode cX7_hear 103 = .ok (.iconst 1, 1) := by decide +kernel
theorem dX7_hear_104 : decode cX7_hear 104 = .ok (.iload_n 1, 1) := by decide +kernel
theorem dX7_hear_105 : decode cX7_hear 105 = .ok (.ishl, 1) := by decide +kernel
theorem dX7_hear_106 : decode cX7_hear 106 = .ok (.ixor, 1) := by decide +kernel
theorem dX7_hear_107 : decode cX7_hear 107 = .ok (.iastore, 1) := by decide +kernel
theorem dX7_hear_108 : decode cX7_hear 108 = .ok (.aload_n 0, 1) := by decide +kernel
theorem dX7_hear_109 : decode cX7_hear 109 = .ok (.iconst 0, 1) := by decide +kernel
theorem dX7_hear_110 : decode cX7_hear 110 = .ok (.invokevirtual 190, 3) := by decide +kernel
theorem dX7_hear_113 : decode cX7_hear 113 = .ok (.ireturn, 1) := by decide +kernel
theorem dX7_draws_0 : decode cX7_draws 0 = .ok (.iload_n 1, 1) := by decide +kernel
theorem dX7_draws_1 : decode cX7_draws 1 = .ok (.iconst 0, 1) := by decide +kernel
theorem dX7_draws_2 : decode cX7_draws 2 = .ok (.sipush 9999, 3) := by decide +kernel
theorem dX7_draws_5 : decode cX7_draws 5 = .ok (.invokestatic 94, 3) := by decide +kernel
theorem dX7_draws_8 : decode cX7_draws 8 = .ok (.ifCond .ne 5, 3) := by decide +kernel
theorem dX7_draws_11 : decode cX7_draws 11 = .ok (.iconst (-1), 1) := by decide +kernel
theorem dX7_draws_12 : decode cX7_draws 12 = .ok (.ireturn, 1) := by decide +kernel
theorem dX7_draws_13 : decode cX7_draws 13 = .ok (.aload_n 0, 1) := by decide +kernel
theorem dX7_draws_14 : decode cX7_draws 14 = .ok (.getfield 13, 3) := by decide +kernel
theorem dX7_draws_17 : decode cX7_draws 17 = .ok (.sipush 428, 3) := by decide +kernel
theorem dX7_draws_20 : decode cX7_draws 20 = .ok (.iaload, 1) := by decide +kernel
theorem dX7_draws_21 : decode cX7_draws 21 = .ok (.istore_n 2, 1) := by decide +kernel
theorem dX7_draws_22 : decode cX7_draws 22 = .ok (.iload_n 2, 1) := by decide +kernel
theorem dX7_draws_23 : decode cX7_draws 23 = .ok (.iload_n 1, 1) := by decide +kernel
theorem dX7_draws_24 : decode cX7_draws 24 = .ok (.if_icmp .ne 6, 3) := by decide +kernel
theorem dX7_draws_27 : decode cX7_draws 27 = .ok (.bipush (-2), 2) := by decide +kernel
theorem dX7_draws_29 : decode cX7_draws 29 = .ok (.ireturn, 1) := by decide +kernel
theorem dX7_draws_30 : decode cX7_draws 30 = .ok (.aload_n 0, 1) := by decide +kernel
theorem dX7_draws_31 : decode cX7_draws 31 = .ok (.invokevirtual 181, 3) := by decide +kernel
theorem dX7_draws_34 : decode cX7_draws 34 = .ok (.aload_n 0, 1) := by decide +kernel
theorem dX7_draws_35 : decode cX7_draws 35 = .ok (.getfield 13, 3) := by decide +kernel
theorem dX7_draws_38 : decode cX7_draws 38 = .ok (.sipush 428, 3) := by decide +kernel
theorem dX7_draws_41 : decode cX7_draws 41 = .ok (.iload_n 1, 1) := by decide +kernel
theorem dX7_draws_42 : decode cX7_draws 42 = .ok (.iastore, 1) := by decide +kernel
theorem dX7_draws_43 : decode cX7_draws 43 = .ok (.iload_n 2, 1) := by decide +kernel
theorem dX7_draws_44 : decode cX7_draws 44 = .ok (.ireturn, 1) := by decide +kernel
theorem dX7_slot_0 : decode cX7_slot 0 = .ok (.iload_n 1, 1) := by decide +kernel
theorem dX7_slot_1 : decode cX7_slot 1 = .ok (.iconst 1, 1) := by decide +kernel
theorem dX7_slot_2 : decode cX7_slot 2 = .ok (.bipush 99, 2) := by decide +kernel
theorem dX7_slot_4 : decode cX7_slot 4 = .ok (.invokestatic 94, 3) := by decide +kernel
theorem dX7_slot_7 : decode cX7_slot 7 = .ok (.ifCond .ne 5, 3) := by decide +kernel
theorem dX7_slot_10 : decode cX7_slot 10 = .ok (.iconst (-1), 1) := by decide +kernel
theorem dX7_slot_11 : decode cX7_slot 11 = .ok (.ireturn, 1) := by decide +kernel
theorem dX7_slot_12 : decode cX7_slot 12 = .ok (.aload_n 0, 1) := by decide +kernel
theorem dX7_slot_13 : decode cX7_slot 13 = .ok (.getfield 13, 3) := by decide +kernel
theorem dX7_slot_16 : decode cX7_slot 16 = .ok (.sipush 426, 3) := by decide +kernel
theorem dX7_slot_19 : decode cX7_slot 19 = .ok (.iaload, 1) := by decide +kernel
theorem dX7_slot_20 : decode cX7_slot 20 = .ok (.iload_n 1, 1) := by decide +kernel
theorem dX7_slot_21 : decode cX7_slot 21 = .ok (.iadd, 1) := by decide +kernel
theorem dX7_slot_22 : decode cX7_slot 22 = .ok (.sipush 9999, 3) := by decide +kernel
theorem dX7_slot_25 : decode cX7_slot 25 = .ok (.if_icmp .le 6, 3) := by decide +kernel
theorem dX7_slot_28 : decode cX7_slot 28 = .ok (.bipush (-2), 2) := by decide +kernel
theorem dX7_slot_30 : decode cX7_slot 30 = .ok (.ireturn, 1) := by decide +kernel
theorem dX7_slot_31 : decode cX7_slot 31 = .ok (.aload_n 0, 1) := by decide +kernel
theorem dX7_slot_32 : decode cX7_slot 32 = .ok (.invokevirtual 181, 3) := by decide +kernel
theorem dX7_slot_35 : decode cX7_slot 35 = .ok (.aload_n 0, 1) := by decide +kernel
theorem dX7_slot_36 : decode cX7_slot 36 = .ok (.iconst 0, 1) := by decide +kernel
theorem dX7_slot_37 : decode cX7_slot 37 = .ok (.iconst 5, 1) := by decide +kernel
theorem dX7_slot_38 : decode cX7_slot 38 = .ok (.invokevirtual 193, 3) := by decide +kernel
theorem dX7_slot_41 : decode cX7_slot 41 = .ok (.istore_n 2, 1) := by decide +kernel
theorem dX7_slot_42 : decode cX7_slot 42 = .ok (.iconst 0, 1) := by decide +kernel
theorem dX7_slot_43 : decode cX7_slot 43 = .ok (.istore_n 3, 1) := by decide +kernel
theorem dX7_slot_44 : decode cX7_slot 44 = .ok (.iload_n 3, 1) := by decide +kernel
theorem dX7_slot_45 : decode cX7_slot 45 = .ok (.iload_n 1, 1) := by decide +kernel
theorem dX7_slot_46 : decode cX7_slot 46 = .ok (.if_icmp .ge 14, 3) := by decide +kernel
theorem dX7_slot_49 : decode cX7_slot 49 = .ok (.aload_n 0, 1) := by decide +kernel
theorem dX7_slot_50 : decode cX7_slot 50 = .ok (.iconst 0, 1) := by decide +kernel
theorem dX7_slot_51 : decode cX7_slot 51 = .ok (.invokevirtual 196, 3) := by decide +kernel
theorem dX7_slot_54 : decode cX7_slot 54 = .ok (.iinc 3 1, 3) := by decide +kernel
theorem dX7_slot_57 : decode cX7_slot 57 = .ok (.goto (-13), 3) := by decide +kernel
theorem dX7_slot_60 : decode cX7_slot 60 = .ok (.aload_n 0, 1) := by decide +kernel
theorem dX7_slot_61 : decode cX7_slot 61 = .ok (.iconst 0, 1) := by decide +kernel
theorem dX7_slot_62 : decode cX7_slot 62 = .ok (.iconst 5, 1) := by decide +kernel
theorem dX7_slot_63 : decode cX7_slot 63 = .ok (.invokevirtual 193, 3) := by decide +kernel
theorem dX7_slot_66 : decode cX7_slot 66 = .ok (.iload_n 2, 1) := by decide +kernel
theorem dX7_slot_67 : decode cX7_slot 67 = .ok (.isub, 1) := by decide +kernel
theorem dX7_slot_68 : decode cX7_slot 68 = .ok (.ireturn, 1) := by decide +kernel
theorem dX7_station_0 : decode cX7_station 0 = .ok (.aload_n 0, 1) := by decide +kernel
theorem dX7_station_1 : decode cX7_station 1 = .ok (.iload_n 1, 1) := by decide +kernel
theorem dX7_station_2 : decode cX7_station 2 = .ok (.invokevirtual 175, 3) := by decide +kernel
theorem dX7_station_5 : decode cX7_station 5 = .ok (.ifCond .eq 13, 3) := by decide +kernel
theorem dX7_station_8 : decode cX7_station 8 = .ok (.iload_n 2, 1) := by decide +kernel
theorem dX7_station_9 : decode cX7_station 9 = .ok (.iconst 0, 1) := by decide +kernel
theorem dX7_station_10 : decode cX7_station 10 = .ok (.bipush 11, 2) := by decide +kernel
theorem dX7_station_12 : decode cX7_station 12 = .ok (.invokestatic 94, 3) := by decide +kernel
theorem dX7_station_15 : decode cX7_station 15 = .ok (.ifCond .ne 5, 3) := by decide +kernel
theorem dX7_station_18 : decode cX7_station 18 = .ok (.iconst (-1), 1) := by decide +kernel
theorem dX7_station_19 : decode cX7_station 19 = .ok (.ireturn, 1) := by decide +kernel
theorem dX7_station_20 : decode cX7_station 20 = .ok (.iconst 0, 1) := by decide +kernel
theorem dX7_station_21 : decode cX7_station 21 = .ok (.iload_n 1, 1) := by decide +kernel
theorem dX7_station_22 : decode cX7_station 22 = .ok (.invokestatic 52, 3) := by decide +kernel
theorem dX7_station_25 : decode cX7_station 25 = .ok (.istore_n 3, 1) := by decide +kernel
theorem dX7_station_26 : decode cX7_station 26 = .ok (.iload_n 2, 1) := by decide +kernel
theorem dX7_station_27 : decode cX7_station 27 = .ok (.tableswitch 192 0 10 #[57, 67, 76, 85, 111, 120, 129, 138, 148, 158, 181], 57) := by decide +kernel
theorem dX7_station_84 : decode cX7_station 84 = .ok (.aload_n 0, 1) := by decide +kernel
theorem dX7_station_85 : decode cX7_station 85 = .ok (.getfield 13, 3) := by decide +kernel
theorem dX7_station_88 : decode cX7_station 88 = .ok (.iload_n 3, 1) := by decide +kernel
theorem dX7_station_89 : decode cX7_station 89 = .ok (.bipush 8, 2) := by decide +kernel
theorem dX7_station_91 : decode cX7_station 91 = .ok (.iadd, 1) := by decide +kernel
theorem dX7_station_92 : decode cX7_station 92 = .ok (.iaload, 1) := by decide +kernel
theorem dX7_station_93 : decode cX7_station 93 = .ok (.ireturn, 1) := by decide +kernel
theorem dX7_station_94 : decode cX7_station 94 = .ok (.aload_n 0, 1) := by decide +kernel
theorem dX7_station_95 : decode cX7_station 95 = .ok (.getfield 13, 3) := by decide +kernel
theorem dX7_station_98 : decode cX7_station 98 = .ok (.iload_n 3, 1) := by decide +kernel
theorem dX7_station_99 : decode cX7_station 99 = .ok (.iconst 0, 1) := by decide +kernel
theorem dX7_station_100 : decode cX7_station 100 = .ok (.iadd, 1) := by decide +kernel
theorem dX7_station_101 : decode cX7_station 101 = .ok (.iaload, 1) := by decide +kernel
theorem dX7_station_102 : decode cX7_station 102 = .ok (.ireturn, 1) := by decide +kernel
theorem dX7_station_103 : decode cX7_station 103 = .ok (.aload_n 0, 1) := by decide +kernel
theorem dX7_station_104 : decode cX7_station 104 = .ok (.getfield 13, 3) := by decide +kernel
theorem dX7_station_107 : decode cX7_station 107 = .ok (.iload_n 3, 1) := by decide +kernel
theorem dX7_station_108 : decode cX7_station 108 = .ok (.iconst 1, 1) := by decide +kernel
theorem dX7_station_109 : decode cX7_station 109 = .ok (.iadd, 1) := by decide +kernel
theorem dX7_station_110 : decode cX7_station 110 = .ok (.iaload, 1) := by decide +kernel
theorem dX7_station_111 : decode cX7_station 111 = .ok (.ireturn, 1) := by decide +kernel
theorem dX7_station_112 : decode cX7_station 112 = .ok (.aload_n 0, 1) := by decide +kernel
theorem dX7_station_113 : decode cX7_station 113 = .ok (.getfield 13, 3) := by decide +kernel
theorem dX7_station_116 : decode cX7_station 116 = .ok (.iload_n 3, 1) := by decide +kernel
theorem dX7_station_117 : decode cX7_station 117 = .ok (.bipush 8, 2) := by decide +kernel
theorem dX7_station_119 : decode cX7_station 119 = .ok (.iadd, 1) := by decide +kernel
theorem dX7_station_120 : decode cX7_station 120 = .ok (.iaload, 1) := by decide +kernel
theorem dX7_station_121 : decode cX7_station 121 = .ok (.ifCond .ne 8, 3) := by decide +kernel
theorem dX7_station_124 : decode cX7_station 124 = .ok (.bipush (-4), 2) := by decide +kernel
theorem dX7_station_126 : decode cX7_station 126 = .ok (.goto 11, 3) := by decide +kernel
theorem dX7_station_129 : decode cX7_station 129 = .ok (.aload_n 0, 1) := by decide +kernel
theorem dX7_station_130 : decode cX7_station 130 = .ok (.getfield 13, 3) := by decide +kernel
theorem dX7_station_133 : decode cX7_station 133 = .ok (.iload_n 3, 1) := by decide +kernel
theorem dX7_station_134 : decode cX7_station 134 = .ok (.iconst 2, 1) := by decide +kernel
theorem dX7_station_135 : decode cX7_station 135 = .ok (.iadd, 1) := by decide +kernel
theorem dX7_station_136 : decode cX7_station 136 = .ok (.iaload, 1) := by decide +kernel
theorem dX7_station_137 : decode cX7_station 137 = .ok (.ireturn, 1) := by decide +kernel
theorem dX7_station_138 : decode cX7_station 138 = .ok (.aload_n 0, 1) := by decide +kernel
theorem dX7_station_139 : decode cX7_station 139 = .ok (.getfield 13, 3) := by decide +kernel
theorem dX7_station_142 : decode cX7_station 142 = .ok (.iload_n 3, 1) := by decide +kernel
theorem dX7_station_143 : decode cX7_station 143 = .ok (.iconst 3, 1) := by decide +kernel
theorem dX7_station_144 : decode cX7_station 144 = .ok (.iadd, 1) := by decide +kernel
theorem dX7_station_145 : decode cX7_station 145 = .ok (.iaload, 1) := by decide +kernel
theorem dX7_station_146 : decode cX7_station 146 = .ok (.ireturn, 1) := by decide +kernel
theorem dX7_station_147 : decode cX7_station 147 = .ok (.aload_n 0, 1) := by decide +kernel
theorem dX7_station_148 : decode cX7_station 148 = .ok (.getfield 13, 3) := by decide +kernel
theorem dX7_station_151 : decode cX7_station 151 = .ok (.iload_n 3, 1) := by decide +kernel
theorem dX7_station_152 : decode cX7_station 152 = .ok (.iconst 4, 1) := by decide +kernel
theorem dX7_station_153 : decode cX7_station 153 = .ok (.iadd, 1) := by decide +kernel
theorem dX7_station_154 : decode cX7_station 154 = .ok (.iaload, 1) := by decide +kernel
theorem dX7_station_155 : decode cX7_station 155 = .ok (.ireturn, 1) := by decide +kernel
theorem dX7_station_156 : decode cX7_station 156 = .ok (.aload_n 0, 1) := by decide +kernel
theorem dX7_station_157 : decode cX7_station 157 = .ok (.getfield 13, 3) := by decide +kernel
theorem dX7_station_160 : decode cX7_station 160 = .ok (.iload_n 3, 1) := by decide +kernel
theorem dX7_station_161 : decode cX7_station 161 = .ok (.iconst 5, 1) := by decide +kernel
theorem dX7_station_162 : decode cX7_station 162 = .ok (.iadd, 1) := by decide +kernel
theorem dX7_station_163 : decode cX7_station 163 = .ok (.iaload, 1) := by decide +kernel
theorem dX7_station_164 : decode cX7_station 164 = .ok (.ireturn, 1) := by decide +kernel
theorem dX7_station_165 : decode cX7_station 165 = .ok (.aload_n 0, 1) := by decide +kernel
theorem dX7_station_166 : decode cX7_station 166 = .ok (.getfield 13, 3) := by decide +kernel
theorem dX7_station_169 : decode cX7_station 169 = .ok (.iload_n 3, 1) := by decide +kernel
theorem dX7_station_170 : decode cX7_station 170 = .ok (.bipush 6, 2) := by decide +kernel
theorem dX7_station_172 : decode cX7_station 172 = .ok (.iadd, 1) := by decide +kernel
theorem dX7_station_173 : decode cX7_station 173 = .ok (.iaload, 1) := by decide +kernel
theorem dX7_station_174 : decode cX7_station 174 = .ok (.ireturn, 1) := by decide +kernel
theorem dX7_station_175 : decode cX7_station 175 = .ok (.aload_n 0, 1) := by decide +kernel
theorem dX7_station_176 : decode cX7_station 176 = .ok (.getfield 13, 3) := by decide +kernel
theorem dX7_station_179 : decode cX7_station 179 = .ok (.iload_n 3, 1) := by decide +kernel
theorem dX7_station_180 : decode cX7_station 180 = .ok (.bipush 7, 2) := by decide +kernel
theorem dX7_station_182 : decode cX7_station 182 = .ok (.iadd, 1) := by decide +kernel
theorem dX7_station_183 : decode cX7_station 183 = .ok (.iaload, 1) := by decide +kernel
theorem dX7_station_184 : decode cX7_station 184 = .ok (.ireturn, 1) := by decide +kernel
theorem dX7_station_185 : decode cX7_station 185 = .ok (.aload_n 0, 1) := by decide +kernel
theorem dX7_station_186 : decode cX7_station 186 = .ok (.iconst 0, 1) := by decide +kernel
theorem dX7_station_187 : decode cX7_station 187 = .ok (.iload_n 1, 1) := by decide +kernel
theorem dX7_station_188 : decode cX7_station 188 = .ok (.aload_n 0, 1) := by decide +kernel
theorem dX7_station_189 : decode cX7_station 189 = .ok (.getfield 13, 3) := by decide +kernel
theorem dX7_station_192 : decode cX7_station 192 = .ok (.sipush 426, 3) := by decide +kernel
theorem dX7_station_195 : decode cX7_station 195 = .ok (.iaload, 1) := by decide +kernel
theorem dX7_station_196 : decode cX7_station 196 = .ok (.iconst 1, 1) := by decide +kernel
theorem dX7_station_197 : decode cX7_station 197 = .ok (.iadd, 1) := by decide +kernel
theorem dX7_station_198 : decode cX7_station 198 = .ok (.invokevirtual 166, 3) := by decide +kernel
theorem dX7_station_201 : decode cX7_station 201 = .ok (.aload_n 0, 1) := by decide +kernel
theorem dX7_station_202 : decode cX7_station 202 = .ok (.getfield 22, 3) := by decide +kernel
theorem dX7_station_205 : decode cX7_station 205 = .ok (.iload_n 1, 1) := by decide +kernel
theorem dX7_station_206 : decode cX7_station 206 = .ok (.iaload, 1) := by decide +kernel
theorem dX7_station_207 : decode cX7_station 207 = .ok (.ireturn, 1) := by decide +kernel
theorem dX7_station_208 : decode cX7_station 208 = .ok (.aload_n 0, 1) := by decide +kernel
theorem dX7_station_209 : decode cX7_station 209 = .ok (.getfield 13, 3) := by decide +kernel
theorem dX7_station_212 : decode cX7_station 212 = .ok (.sipush 420, 3) := by decide +kernel
theorem dX7_station_215 : decode cX7_station 215 = .ok (.iload_n 1, 1) := by decide +kernel
theorem dX7_station_216 : decode cX7_station 216 = .ok (.iadd, 1) := by decide +kernel
theorem dX7_station_217 : decode cX7_station 217 = .ok (.iaload, 1) := by decide +kernel
theorem dX7_station_218 : decode cX7_station 218 = .ok (.ireturn, 1) := by decide +kernel
theorem dX7_station_219 : decode cX7_station 219 = .ok (.aload_n 0, 1) := by decide +kernel
theorem dX7_station_220 : decode cX7_station 220 = .ok (.getfield 13, 3) := by decide +kernel
theorem dX7_station_223 : decode cX7_station 223 = .ok (.iload_n 3, 1) := by decide +kernel
theorem dX7_station_224 : decode cX7_station 224 = .ok (.bipush 26, 2) := by decide +kernel
theorem dX7_station_226 : decode cX7_station 226 = .ok (.iadd, 1) := by decide +kernel
theorem dX7_station_227 : decode cX7_station 227 = .ok (.iaload, 1) := by decide +kernel
theorem dX7_station_228 : decode cX7_station 228 = .ok (.ifCond .le 29, 3) := by decide +kernel
theorem dX7_station_231 : decode cX7_station 231 = .ok (.aload_n 0, 1) := by decide +kernel
theorem dX7_station_232 : decode cX7_station 232 = .ok (.getfield 13, 3) := by decide +kernel
theorem dX7_station_235 : decode cX7_station 235 = .ok (.iload_n 3, 1) := by decide +kernel
theorem dX7_station_236 : decode cX7_station 236 = .ok (.bipush 27, 2) := by decide +kernel
theorem dX7_station_238 : decode cX7_station 238 = .ok (.iadd, 1) := by decide +kernel
theorem dX7_station_239 : decode cX7_station 239 = .ok (.iaload, 1) := by decide +kernel
theorem dX7_station_240 : decode cX7_station 240 = .ok (.aload_n 0, 1) := by decide +kernel
theorem dX7_station_241 : decode cX7_station 241 = .ok (.getfield 13, 3) := by decide +kernel
theorem dX7_station_244 : decode cX7_station 244 = .ok (.sipush 426, 3) := by decide +kernel
theorem dX7_station_247 : decode cX7_station 247 = .ok (.iaload, 1) := by decide +kernel
theorem dX7_station_248 : decode cX7_station 248 = .ok (.iconst 1, 1) := by decide +kernel
theorem dX7_station_249 : decode cX7_station 249 = .ok (.iadd, 1) := by decide +kernel
theorem dX7_station_250 : decode cX7_station 250 = .ok (.if_icmp .ne 7, 3) := by decide +kernel
theorem dX7_station_253 : decode cX7_station 253 = .ok (.iconst 1, 1) := by decide +kernel
theorem dX7_station_254 : decode cX7_station 254 = .ok (.goto 4, 3) := by decide +kernel
theorem dX7_station_257 : decode cX7_station 257 = .ok (.iconst 0, 1) := by decide +kernel
theorem dX7_station_258 : decode cX7_station 258 = .ok (.ireturn, 1) := by decide +kernel
theorem dX7_letterOf_0 : decode cX7_letterOf 0 = .ok (.aload_n 0, 1) := by decide +kernel
theorem dX7_letterOf_1 : decode cX7_letterOf 1 = .ok (.iload_n 1, 1) := by decide +kernel
theorem dX7_letterOf_2 : decode cX7_letterOf 2 = .ok (.invokevirtual 175, 3) := by decide +kernel
theorem dX7_letterOf_5 : decode cX7_letterOf 5 = .ok (.ifCond .eq 16, 3) := by decide +kernel
theorem dX7_letterOf_8 : decode cX7_letterOf 8 = .ok (.iload_n 2, 1) := by decide +kernel
theorem dX7_letterOf_9 : decode cX7_letterOf 9 = .ok (.ifCond .lt 12, 3) := by decide +kernel
theorem dX7_letterOf_12 : decode cX7_letterOf 12 = .ok (.iload_n 3, 1) := by decide +kernel
theorem dX7_letterOf_13 : decode cX7_letterOf 13 = .ok (.iconst 0, 1) := by decide +kernel
theorem dX7_letterOf_14 : decode cX7_letterOf 14 = .ok (.iconst 3, 1) := by decide +kernel
theorem dX7_letterOf_15 : decode cX7_letterOf 15 = .ok (.invokestatic 94, 3) := by decide +kernel
theorem dX7_letterOf_18 : decode cX7_letterOf 18 = .ok (.ifCond .ne 5, 3) := by decide +kernel
theorem dX7_letterOf_21 : decode cX7_letterOf 21 = .ok (.iconst (-1), 1) := by decide +kernel
theorem dX7_letterOf_22 : decode cX7_letterOf 22 = .ok (.ireturn, 1) := by decide +kernel
theorem dX7_letterOf_23 : decode cX7_letterOf 23 = .ok (.iconst 0, 1) := by decide +kernel
theorem dX7_letterOf_24 : decode cX7_letterOf 24 = .ok (.iload_n 1, 1) := by decide +kernel
theorem dX7_letterOf_25 : decode cX7_letterOf 25 = .ok (.invokestatic 52, 3) := by decide +kernel
theorem dX7_letterOf_28 : decode cX7_letterOf 28 = .ok (.istore 4, 2) := by decide +kernel
theorem dX7_letterOf_30 : decode cX7_letterOf 30 = .ok (.iload_n 2, 1) := by decide +kernel
theorem dX7_letterOf_31 : decode cX7_letterOf 31 = .ok (.aload_n 0, 1) := by decide +kernel
theorem dX7_letterOf_32 : decode cX7_letterOf 32 = .ok (.getfield 13, 3) := by decide +kernel
theorem dX7_letterOf_35 : decode cX7_letterOf 35 = .ok (.iload 4, 2) := by decide +kernel
theorem dX7_letterOf_37 : decode cX7_letterOf 37 = .ok (.bipush 8, 2) := by decide +kernel
theorem dX7_letterOf_39 : decode cX7_letterOf 39 = .ok (.iadd, 1) := by decide +kernel
theorem dX7_letterOf_40 : decode cX7_letterOf 40 = .ok (.iaload, 1) := by decide +kernel
theorem dX7_letterOf_41 : decode cX7_letterOf 41 = .ok (.if_icmp .lt 6, 3) := by decide +kernel
theorem dX7_letterOf_44 : decode cX7_letterOf 44 = .ok (.bipush (-4), 2) := by decide +kernel
theorem dX7_letterOf_46 : decode cX7_letterOf 46 = .ok (.ireturn, 1) := by decide +kernel
theorem dX7_letterOf_47 : decode cX7_letterOf 47 = .ok (.aload_n 0, 1) := by decide +kernel
theorem dX7_letterOf_48 : decode cX7_letterOf 48 = .ok (.getfield 13, 3) := by decide +kernel
theorem dX7_letterOf_51 : decode cX7_letterOf 51 = .ok (.iload 4, 2) := by decide +kernel
theorem dX7_letterOf_53 : decode cX7_letterOf 53 = .ok (.bipush 9, 2) := by decide +kernel
theorem dX7_letterOf_55 : decode cX7_letterOf 55 = .ok (.iadd, 1) := by decide +kernel
theorem dX7_letterOf_56 : decode cX7_letterOf 56 = .ok (.iconst 2, 1) := by decide +kernel
theorem dX7_letterOf_57 : decode cX7_letterOf 57 = .ok (.iload_n 2, 1) := by decide +kernel
theorem dX7_letterOf_58 : decode cX7_letterOf 58 = .ok (.imul, 1) := by decide +kernel
theorem dX7_letterOf_59 : decode cX7_letterOf 59 = .ok (.iadd, 1) := by decide +kernel
theorem dX7_letterOf_60 : decode cX7_letterOf 60 = .ok (.iconst 1, 1) := by decide +kernel
theorem dX7_letterOf_61 : decode cX7_letterOf 61 = .ok (.iadd, 1) := by decide +kernel
theorem dX7_letterOf_62 : decode cX7_letterOf 62 = .ok (.iaload, 1) := by decide +kernel
theorem dX7_letterOf_63 : decode cX7_letterOf 63 = .ok (.istore 5, 2) := by decide +kernel
theorem dX7_letterOf_65 : decode cX7_letterOf 65 = .ok (.iload_n 3, 1) := by decide +kernel
theorem dX7_letterOf_66 : decode cX7_letterOf 66 = .ok (.tableswitch 59 0 2 #[26, 41, 44], 26) := by decide +kernel
theorem dX7_letterOf_92 : decode cX7_letterOf 92 = .ok (.aload_n 0, 1) := by decide +kernel
theorem dX7_letterOf_93 : decode cX7_letterOf 93 = .ok (.getfield 13, 3) := by decide +kernel
theorem dX7_letterOf_96 : decode cX7_letterOf 96 = .ok (.iload 4, 2) := by decide +kernel
theorem dX7_letterOf_98 : decode cX7_letterOf 98 = .ok (.bipush 9, 2) := by decide +kernel
theorem dX7_letterOf_100 : decode cX7_letterOf 100 = .ok (.iadd, 1) := by decide +kernel
theorem dX7_letterOf_101 : decode cX7_letterOf 101 = .ok (.iconst 2, 1) := by decide +kernel
theorem dX7_letterOf_102 : decode cX7_letterOf 102 = .ok (.iload_n 2, 1) := by decide +kernel
theorem dX7_letterOf_103 : decode cX7_letterOf 103 = .ok (.imul, 1) := by decide +kernel
theorem dX7_letterOf_104 : decode cX7_letterOf 104 = .ok (.iadd, 1) := by decide +kernel
theorem dX7_letterOf_105 : decode cX7_letterOf 105 = .ok (.iaload, 1) := by decide +kernel
theorem dX7_letterOf_106 : decode cX7_letterOf 106 = .ok (.ireturn, 1) := by decide +kernel
theorem dX7_letterOf_107 : decode cX7_letterOf 107 = .ok (.iload 5, 2) := by decide +kernel
theorem dX7_letterOf_109 : decode cX7_letterOf 109 = .ok (.ireturn, 1) := by decide +kernel
theorem dX7_letterOf_110 : decode cX7_letterOf 110 = .ok (.iload 5, 2) := by decide +kernel
theorem dX7_letterOf_112 : decode cX7_letterOf 112 = .ok (.aload_n 0, 1) := by decide +kernel
theorem dX7_letterOf_113 : decode cX7_letterOf 113 = .ok (.getfield 65, 3) := by decide +kernel
theorem dX7_letterOf_116 : decode cX7_letterOf 116 = .ok (.if_icmp .lt 7, 3) := by decide +kernel
theorem dX7_letterOf_119 : decode cX7_letterOf 119 = .ok (.iconst 1, 1) := by decide +kernel
theorem dX7_letterOf_120 : decode cX7_letterOf 120 = .ok (.goto 4, 3) := by decide +kernel
theorem dX7_letterOf_123 : decode cX7_letterOf 123 = .ok (.iconst 0, 1) := by decide +kernel
theorem dX7_letterOf_124 : decode cX7_letterOf 124 = .ok (.ireturn, 1) := by decide +kernel
theorem dX7_letterOf_125 : decode cX7_letterOf 125 = .ok (.iload_n 2, 1) := by decide +kernel
theorem dX7_letterOf_126 : decode cX7_letterOf 126 = .ok (.ifCond .ne 16, 3) := by decide +kernel
theorem dX7_letterOf_129 : decode cX7_letterOf 129 = .ok (.aload_n 0, 1) := by decide +kernel
theorem dX7_letterOf_130 : decode cX7_letterOf 130 = .ok (.getfield 13, 3) := by decide +kernel
theorem dX7_letterOf_133 : decode cX7_letterOf 133 = .ok (.iload 4, 2) := by decide +kernel
theorem dX7_letterOf_135 : decode cX7_letterOf 135 = .ok (.bipush 28, 2) := by decide +kernel
theorem dX7_letterOf_137 : decode cX7_letterOf 137 = .ok (.iadd, 1) := by decide +kernel
theorem dX7_letterOf_138 : decode cX7_letterOf 138 = .ok (.iaload, 1) := by decide +kernel
theorem dX7_letterOf_139 : decode cX7_letterOf 139 = .ok (.goto 4, 3) := by decide +kernel
theorem dX7_letterOf_142 : decode cX7_letterOf 142 = .ok (.iconst 0, 1) := by decide +kernel
theorem dX7_letterOf_143 : decode cX7_letterOf 143 = .ok (.ireturn, 1) := by decide +kernel
theorem dX7_overheard_0 : decode cX7_overheard 0 = .ok (.aload_n 0, 1) := by decide +kernel
theorem dX7_overheard_1 : decode cX7_overheard 1 = .ok (.iload_n 1, 1) := by decide +kernel
theorem dX7_overheard_2 : decode cX7_overheard 2 = .ok (.invokevirtual 175, 3) := by decide +kernel
theorem dX7_overheard_5 : decode cX7_overheard 5 = .ok (.ifCond .eq 16, 3) := by decide +kernel
theorem dX7_overheard_8 : decode cX7_overheard 8 = .ok (.iload_n 2, 1) := by decide +kernel
theorem dX7_overheard_9 : decode cX7_overheard 9 = .ok (.ifCond .lt 12, 3) := by decide +kernel
theorem dX7_overheard_12 : decode cX7_overheard 12 = .ok (.iload_n 3, 1) := by decide +kernel
theorem dX7_overheard_13 : decode cX7_overheard 13 = .ok (.iconst 0, 1) := by decide +kernel
theorem dX7_overheard_14 : decode cX7_overheard 14 = .ok (.iconst 3, 1) := by decide +kernel
theorem dX7_overheard_15 : decode cX7_overheard 15 = .ok (.invokestatic 94, 3) := by decide +kernel
theorem dX7_overheard_18 : decode cX7_overheard 18 = .ok (.ifCond .ne 5, 3) := by decide +kernel
theorem dX7_overheard_21 : decode cX7_overheard 21 = .ok (.iconst (-1), 1) := by decide +kernel
theorem dX7_overheard_22 : decode cX7_overheard 22 = .ok (.ireturn, 1) := by decide +kernel
theorem dX7_overheard_23 : decode cX7_overheard 23 = .ok (.iconst 0, 1) := by decide +kernel
theorem dX7_overheard_24 : decode cX7_overheard 24 = .ok (.iload_n 1, 1) := by decide +kernel
theorem dX7_overheard_25 : decode cX7_overheard 25 = .ok (.invokestatic 52, 3) := by decide +kernel
theorem dX7_overheard_28 : decode cX7_overheard 28 = .ok (.bipush 33, 2) := by decide +kernel
theorem dX7_overheard_30 : decode cX7_overheard 30 = .ok (.iadd, 1) := by decide +kernel
theorem dX7_overheard_31 : decode cX7_overheard 31 = .ok (.istore 4, 2) := by decide +kernel
theorem dX7_overheard_33 : decode cX7_overheard 33 = .ok (.iload_n 2, 1) := by decide +kernel
theorem dX7_overheard_34 : decode cX7_overheard 34 = .ok (.aload_n 0, 1) := by decide +kernel
theorem dX7_overheard_35 : decode cX7_overheard 35 = .ok (.getfield 13, 3) := by decide +kernel
theorem dX7_overheard_38 : decode cX7_overheard 38 = .ok (.iload 4, 2) := by decide +kernel
theorem dX7_overheard_40 : decode cX7_overheard 40 = .ok (.iaload, 1) := by decide +kernel
theorem dX7_overheard_41 : decode cX7_overheard 41 = .ok (.if_icmp .ge 21, 3) := by decide +kernel
theorem dX7_overheard_44 : decode cX7_overheard 44 = .ok (.aload_n 0, 1) := by decide +kernel
theorem dX7_overheard_45 : decode cX7_overheard 45 = .ok (.getfield 13, 3) := by decide +kernel
theorem dX7_overheard_48 : decode cX7_overheard 48 = .ok (.iload 4, 2) := by decide +kernel
theorem dX7_overheard_50 : decode cX7_overheard 50 = .ok (.iconst 1, 1) := by decide +kernel
theorem dX7_overheard_51 : decode cX7_overheard 51 = .ok (.iadd, 1) := by decide +kernel
theorem dX7_overheard_52 : decode cX7_overheard 52 = .ok (.iconst 4, 1) := by decide +kernel
theorem dX7_overheard_53 : decode cX7_overheard 53 = .ok (.iload_n 2, 1) := by decide +kernel
theorem dX7_overheard_54 : decode cX7_overheard 54 = .ok (.imul, 1) := by decide +kernel
theorem dX7_overheard_55 : decode cX7_overheard 55 = .ok (.iadd, 1) := by decide +kernel
theorem dX7_overheard_56 : decode cX7_overheard 56 = .ok (.iload_n 3, 1) := by decide +kernel
theorem dX7_overheard_57 : decode cX7_overheard 57 = .ok (.iadd, 1) := by decide +kernel
theorem dX7_overheard_58 : decode cX7_overheard 58 = .ok (.iaload, 1) := by decide +kernel
theorem dX7_overheard_59 : decode cX7_overheard 59 = .ok (.goto 5, 3) := by decide +kernel
theorem dX7_overheard_62 : decode cX7_overheard 62 = .ok (.bipush (-4), 2) := by decide +kernel
theorem dX7_overheard_64 : decode cX7_overheard 64 = .ok (.ireturn, 1) := by decide +kernel
theorem dX7_pair_0 : decode cX7_pair 0 = .ok (.aload_n 0, 1) := by decide +kernel
theorem dX7_pair_1 : decode cX7_pair 1 = .ok (.iload_n 1, 1) := by decide +kernel
theorem dX7_pair_2 : decode cX7_pair 2 = .ok (.iload_n 2, 1) := by decide +kernel
theorem dX7_pair_3 : decode cX7_pair 3 = .ok (.invokevirtual 178, 3) := by decide +kernel
theorem dX7_pair_6 : decode cX7_pair 6 = .ok (.ifCond .eq 12, 3) := by decide +kernel
theorem dX7_pair_9 : decode cX7_pair 9 = .ok (.aload_n 0, 1) := by decide +kernel
theorem dX7_pair_10 : decode cX7_pair 10 = .ok (.iload_n 1, 1) := by decide +kernel
theorem dX7_pair_11 : decode cX7_pair 11 = .ok (.iload_n 2, 1) := by decide +kernel
theorem dX7_pair_12 : decode cX7_pair 12 = .ok (.invokevirtual 184, 3) := by decide +kernel
theorem dX7_pair_15 : decode cX7_pair 15 = .ok (.goto 4, 3) := by decide +kernel
theorem dX7_pair_18 : decode cX7_pair 18 = .ok (.iconst (-1), 1) := by decide +kernel
theorem dX7_pair_19 : decode cX7_pair 19 = .ok (.ireturn, 1) := by decide +kernel
theorem dX7_draw_0 : decode cX7_draw 0 = .ok (.aload_n 0, 1) := by decide +kernel
theorem dX7_draw_1 : decode cX7_draw 1 = .ok (.iload_n 1, 1) := by decide +kernel
theorem dX7_draw_2 : decode cX7_draw 2 = .ok (.invokevirtual 175, 3) := by decide +kernel
theorem dX7_draw_5 : decode cX7_draw 5 = .ok (.ifCond .eq 24, 3) := by decide +kernel
theorem dX7_draw_8 : decode cX7_draw 8 = .ok (.iload_n 2, 1) := by decide +kernel
theorem dX7_draw_9 : decode cX7_draw 9 = .ok (.iconst 0, 1) := by decide +kernel
theorem dX7_draw_10 : decode cX7_draw 10 = .ok (.sipush 999, 3) := by decide +kernel
theorem dX7_draw_13 : decode cX7_draw 13 = .ok (.invokestatic 94, 3) := by decide +kernel
theorem dX7_draw_16 : decode cX7_draw 16 = .ok (.ifCond .eq 13, 3) := by decide +kernel
theorem dX7_draw_19 : decode cX7_draw 19 = .ok (.aload_n 0, 1) := by decide +kernel
theorem dX7_draw_20 : decode cX7_draw 20 = .ok (.iconst 0, 1) := by decide +kernel
theorem dX7_draw_21 : decode cX7_draw 21 = .ok (.iload_n 1, 1) := by decide +kernel
theorem dX7_draw_22 : decode cX7_draw 22 = .ok (.iload_n 2, 1) := by decide +kernel
theorem dX7_draw_23 : decode cX7_draw 23 = .ok (.invokevirtual 134, 3) := by decide +kernel
theorem dX7_draw_26 : decode cX7_draw 26 = .ok (.goto 4, 3) := by decide +kernel
theorem dX7_draw_29 : decode cX7_draw 29 = .ok (.iconst (-1), 1) := by decide +kernel
theorem dX7_draw_30 : decode cX7_draw 30 = .ok (.ireturn, 1) := by decide +kernel
theorem dX7_took_0 : decode cX7_took 0 = .ok (.iload_n 1, 1) := by decide +kernel
theorem dX7_took_1 : decode cX7_took 1 = .ok (.iconst 1, 1) := by decide +kernel
theorem dX7_took_2 : decode cX7_took 2 = .ok (.bipush 9, 2) := by decide +kernel
theorem dX7_took_4 : decode cX7_took 4 = .ok (.invokestatic 94, 3) := by decide +kernel
theorem dX7_took_7 : decode cX7_took 7 = .ok (.ifCond .eq 12, 3) := by decide +kernel
theorem dX7_took_10 : decode cX7_took 10 = .ok (.iload_n 2, 1) := by decide +kernel
theorem dX7_took_11 : decode cX7_took 11 = .ok (.iconst 0, 1) := by decide +kernel
theorem dX7_took_12 : decode cX7_took 12 = .ok (.iconst 2, 1) := by decide +kernel
theorem dX7_took_13 : decode cX7_took 13 = .ok (.invokestatic 94, 3) := by decide +kernel
theorem dX7_took_16 : decode cX7_took 16 = .ok (.ifCond .ne 5, 3) := by decide +kernel
theorem dX7_took_19 : decode cX7_took 19 = .ok (.iconst (-1), 1) := by decide +kernel
theorem dX7_took_20 : decode cX7_took 20 = .ok (.ireturn, 1) := by decide +kernel
theorem dX7_took_21 : decode cX7_took 21 = .ok (.iload_n 2, 1) := by decide +kernel
theorem dX7_took_22 : decode cX7_took 22 = .ok (.ifCond .ne 14, 3) := by decide +kernel
theorem dX7_took_25 : decode cX7_took 25 = .ok (.aload_n 0, 1) := by decide +kernel
theorem dX7_took_26 : decode cX7_took 26 = .ok (.getfield 13, 3) := by decide +kernel
theorem dX7_took_29 : decode cX7_took 29 = .ok (.sipush 429, 3) := by decide +kernel
theorem dX7_took_32 : decode cX7_took 32 = .ok (.iload_n 1, 1) := by decide +kernel
theorem dX7_took_33 : decode cX7_took 33 = .ok (.iadd, 1) := by decide +kernel
theorem dX7_took_34 : decode cX7_took 34 = .ok (.iaload, 1) := by decide +kernel
theorem dX7_took_35 : decode cX7_took 35 = .ok (.ireturn, 1) := by decide +kernel
theorem dX7_took_36 : decode cX7_took 36 = .ok (.iload_n 2, 1) := by decide +kernel
theorem dX7_took_37 : decode cX7_took 37 = .ok (.iconst 1, 1) := by decide +kernel
theorem dX7_took_38 : decode cX7_took 38 = .ok (.if_icmp .ne 7, 3) := by decide +kernel
theorem dX7_took_41 : decode cX7_took 41 = .ok (.iconst 1, 1) := by decide +kernel
theorem dX7_took_42 : decode cX7_took 42 = .ok (.goto 4, 3) := by decide +kernel
theorem dX7_took_45 : decode cX7_took 45 = .ok (.iconst (-1), 1) := by decide +kernel
theorem dX7_took_46 : decode cX7_took 46 = .ok (.istore_n 3, 1) := by decide +kernel
theorem dX7_took_47 : decode cX7_took 47 = .ok (.iload_n 1, 1) := by decide +kernel
theorem dX7_took_48 : decode cX7_took 48 = .ok (.istore 4, 2) := by decide +kernel
theorem dX7_took_50 : decode cX7_took 50 = .ok (.iload 4, 2) := by decide +kernel
theorem dX7_took_52 : decode cX7_took 52 = .ok (.iconst 1, 1) := by decide +kernel
theorem dX7_took_53 : decode cX7_took 53 = .ok (.bipush 9, 2) := by decide +kernel
theorem dX7_took_55 : decode cX7_took 55 = .ok (.invokestatic 94, 3) := by decide +kernel
theorem dX7_took_58 : decode cX7_took 58 = .ok (.ifCond .eq 26, 3) := by decide +kernel
theorem dX7_took_61 : decode cX7_took 61 = .ok (.aload_n 0, 1) := by decide +kernel
theorem dX7_took_62 : decode cX7_took 62 = .ok (.getfield 13, 3) := by decide +kernel
theorem dX7_took_65 : decode cX7_took 65 = .ok (.sipush 429, 3) := by decide +kernel
theorem dX7_took_68 : decode cX7_took 68 = .ok (.iload 4, 2) := by decide +kernel
theorem dX7_took_70 : decode cX7_took 70 = .ok (.iadd, 1) := by decide +kernel
theorem dX7_took_71 : decode cX7_took 71 = .ok (.iaload, 1) := by decide +kernel
theorem dX7_took_72 : decode cX7_took 72 = .ok (.ifCond .ne 12, 3) := by decide +kernel
theorem dX7_took_75 : decode cX7_took 75 = .ok (.iload 4, 2) := by decide +kernel
theorem dX7_took_77 : decode cX7_took 77 = .ok (.iload_n 3, 1) := by decide +kernel
theorem dX7_took_78 : decode cX7_took 78 = .ok (.iadd, 1) := by decide +kernel
theorem dX7_took_79 : decode cX7_took 79 = .ok (.istore 4, 2) := by decide +kernel
theorem dX7_took_81 : decode cX7_took 81 = .ok (.goto (-31), 3) := by decide +kernel
theorem dX7_took_84 : decode cX7_took 84 = .ok (.iload 4, 2) := by decide +kernel
theorem dX7_took_86 : decode cX7_took 86 = .ok (.iconst 1, 1) := by decide +kernel
theorem dX7_took_87 : decode cX7_took 87 = .ok (.bipush 9, 2) := by decide +kernel
theorem dX7_took_89 : decode cX7_took 89 = .ok (.invokestatic 94, 3) := by decide +kernel
theorem dX7_took_92 : decode cX7_took 92 = .ok (.ifCond .eq 8, 3) := by decide +kernel
theorem dX7_took_95 : decode cX7_took 95 = .ok (.iload 4, 2) := by decide +kernel
theorem dX7_took_97 : decode cX7_took 97 = .ok (.goto 5, 3) := by decide +kernel
theorem dX7_took_100 : decode cX7_took 100 = .ok (.bipush (-4), 2) := by decide +kernel
theorem dX7_took_102 : decode cX7_took 102 = .ok (.ireturn, 1) := by decide +kernel
theorem dX7_ahead_0 : decode cX7_ahead 0 = .ok (.iload_n 1, 1) := by decide +kernel
theorem dX7_ahead_1 : decode cX7_ahead 1 = .ok (.iconst 1, 1) := by decide +kernel
theorem dX7_ahead_2 : decode cX7_ahead 2 = .ok (.bipush 99, 2) := by decide +kernel
theorem dX7_ahead_4 : decode cX7_ahead 4 = .ok (.invokestatic 94, 3) := by decide +kernel
theorem dX7_ahead_7 : decode cX7_ahead 7 = .ok (.ifCond .eq 12, 3) := by decide +kernel
theorem dX7_ahead_10 : decode cX7_ahead 10 = .ok (.iload_n 2, 1) := by decide +kernel
theorem dX7_ahead_11 : decode cX7_ahead 11 = .ok (.iconst 0, 1) := by decide +kernel
theorem dX7_ahead_12 : decode cX7_ahead 12 = .ok (.iconst 5, 1) := by decide +kernel
theorem dX7_ahead_13 : decode cX7_ahead 13 = .ok (.invokestatic 94, 3) := by decide +kernel
theorem dX7_ahead_16 : decode cX7_ahead 16 = .ok (.ifCond .ne 5, 3) := by decide +kernel
theorem dX7_ahead_19 : decode cX7_ahead 19 = .ok (.iconst (-1), 1) := by decide +kernel
theorem dX7_ahead_20 : decode cX7_ahead 20 = .ok (.ireturn, 1) := by decide +kernel
theorem dX7_ahead_21 : decode cX7_ahead 21 = .ok (.aload_n 0, 1) := by decide +kernel
theorem dX7_ahead_22 : decode cX7_ahead 22 = .ok (.iconst 0, 1) := by decide +kernel
theorem dX7_ahead_23 : decode cX7_ahead 23 = .ok (.iconst 1, 1) := by decide +kernel
theorem dX7_ahead_24 : decode cX7_ahead 24 = .ok (.invokevirtual 71, 3) := by decide +kernel
theorem dX7_ahead_27 : decode cX7_ahead 27 = .ok (.iconst 0, 1) := by decide +kernel
theorem dX7_ahead_28 : decode cX7_ahead 28 = .ok (.istore_n 3, 1) := by decide +kernel
theorem dX7_ahead_29 : decode cX7_ahead 29 = .ok (.iload_n 3, 1) := by decide +kernel
theorem dX7_ahead_30 : decode cX7_ahead 30 = .ok (.iload_n 1, 1) := by decide +kernel
theorem dX7_ahead_31 : decode cX7_ahead 31 = .ok (.if_icmp .ge 14, 3) := by decide +kernel
theorem dX7_ahead_34 : decode cX7_ahead 34 = .ok (.aload_n 0, 1) := by decide +kernel
theorem dX7_ahead_35 : decode cX7_ahead 35 = .ok (.iconst 1, 1) := by decide +kernel
theorem dX7_ahead_36 : decode cX7_ahead 36 = .ok (.invokevirtual 196, 3) := by decide +kernel
theorem dX7_ahead_39 : decode cX7_ahead 39 = .ok (.iinc 3 1, 3) := by decide +kernel
theorem dX7_ahead_42 : decode cX7_ahead 42 = .ok (.goto (-13), 3) := by decide +kernel
theorem dX7_ahead_45 : decode cX7_ahead 45 = .ok (.iload_n 2, 1) := by decide +kernel
theorem dX7_ahead_46 : decode cX7_ahead 46 = .ok (.iconst 3, 1) := by decide +kernel
theorem dX7_ahead_47 : decode cX7_ahead 47 = .ok (.if_icmp .ge 37, 3) := by decide +kernel
theorem dX7_ahead_50 : decode cX7_ahead 50 = .ok (.iload_n 2, 1) := by decide +kernel
theorem dX7_ahead_51 : decode cX7_ahead 51 = .ok (.ifCond .ne 7, 3) := by decide +kernel
theorem dX7_ahead_54 : decode cX7_ahead 54 = .ok (.iconst 5, 1) := by decide +kernel
theorem dX7_ahead_55 : decode cX7_ahead 55 = .ok (.goto 14, 3) := by decide +kernel
theorem dX7_ahead_58 : decode cX7_ahead 58 = .ok (.iload_n 2, 1) := by decide +kernel
theorem dX7_ahead_59 : decode cX7_ahead 59 = .ok (.iconst 1, 1) := by decide +kernel
theorem dX7_ahead_60 : decode cX7_ahead 60 = .ok (.if_icmp .ne 8, 3) := by decide +kernel
theorem dX7_ahead_63 : decode cX7_ahead 63 = .ok (.bipush 6, 2) := by decide +kernel
theorem dX7_ahead_65 : decode cX7_ahead 65 = .ok (.goto 4, 3) := by decide +kernel
theorem dX7_ahead_68 : decode cX7_ahead 68 = .ok (.iconst 4, 1) := by decide +kernel
theorem dX7_ahead_69 : decode cX7_ahead 69 = .ok (.istore_n 3, 1) := by decide +kernel
theorem dX7_ahead_70 : decode cX7_ahead 70 = .ok (.aload_n 0, 1) := by decide +kernel
theorem dX7_ahead_71 : decode cX7_ahead 71 = .ok (.iconst 1, 1) := by decide +kernel
theorem dX7_ahead_72 : decode cX7_ahead 72 = .ok (.iload_n 3, 1) := by decide +kernel
theorem dX7_ahead_73 : decode cX7_ahead 73 = .ok (.invokevirtual 193, 3) := by decide +kernel
theorem dX7_ahead_76 : decode cX7_ahead 76 = .ok (.aload_n 0, 1) := by decide +kernel
theorem dX7_ahead_77 : decode cX7_ahead 77 = .ok (.iconst 0, 1) := by decide +kernel
theorem dX7_ahead_78 : decode cX7_ahead 78 = .ok (.iload_n 3, 1) := by decide +kernel
theorem dX7_ahead_79 : decode cX7_ahead 79 = .ok (.invokevirtual 193, 3) := by decide +kernel
theorem dX7_ahead_82 : decode cX7_ahead 82 = .ok (.isub, 1) := by decide +kernel
theorem dX7_ahead_83 : decode cX7_ahead 83 = .ok (.ireturn, 1) := by decide +kernel
theorem dX7_ahead_84 : decode cX7_ahead 84 = .ok (.iload_n 2, 1) := by decide +kernel
theorem dX7_ahead_85 : decode cX7_ahead 85 = .ok (.iconst 5, 1) := by decide +kernel
theorem dX7_ahead_86 : decode cX7_ahead 86 = .ok (.if_icmp .ne 11, 3) := by decide +kernel
theorem dX7_ahead_89 : decode cX7_ahead 89 = .ok (.aload_n 0, 1) := by decide +kernel
theorem dX7_ahead_90 : decode cX7_ahead 90 = .ok (.iconst 1, 1) := by decide +kernel
theorem dX7_ahead_91 : decode cX7_ahead 91 = .ok (.bipush 8, 2) := by decide +kernel
theorem dX7_ahead_93 : decode cX7_ahead 93 = .ok (.invokevirtual 193, 3) := by decide +kernel
theorem dX7_ahead_96 : decode cX7_ahead 96 = .ok (.ireturn, 1) := by decide +kernel
theorem dX7_ahead_97 : decode cX7_ahead 97 = .ok (.iconst 0, 1) := by decide +kernel
theorem dX7_ahead_98 : decode cX7_ahead 98 = .ok (.istore_n 3, 1) := by decide +kernel
theorem dX7_ahead_99 : decode cX7_ahead 99 = .ok (.iconst 0, 1) := by decide +kernel
theorem dX7_ahead_100 : decode cX7_ahead 100 = .ok (.istore 4, 2) := by decide +kernel
theorem dX7_ahead_102 : decode cX7_ahead 102 = .ok (.iload 4, 2) := by decide +kernel
theorem dX7_ahead_104 : decode cX7_ahead 104 = .ok (.aload_n 0, 1) := by decide +kernel
theorem dX7_ahead_105 : decode cX7_ahead 105 = .ok (.getfield 56, 3) := by decide +kernel
theorem dX7_ahead_108 : decode cX7_ahead 108 = .ok (.if_icmp .ge 70, 3) := by decide +kernel
theorem dX7_ahead_111 : decode cX7_ahead 111 = .ok (.aload_n 0, 1) := by decide +kernel
theorem dX7_ahead_112 : decode cX7_ahead 112 = .ok (.getfield 13, 3) := by decide +kernel
theorem dX7_ahead_115 : decode cX7_ahead 115 = .ok (.iconst 1, 1) := by decide +kernel
theorem dX7_ahead_116 : decode cX7_ahead 116 = .ok (.iload 4, 2) := by decide +kernel
theorem dX7_ahead_118 : decode cX7_ahead 118 = .ok (.invokestatic 52, 3) := by decide +kernel
theorem dX7_ahead_121 : decode cX7_ahead 121 = .ok (.iconst 5, 1) := by decide +kernel
theorem dX7_ahead_122 : decode cX7_ahead 122 = .ok (.iadd, 1) := by decide +kernel
theorem dX7_ahead_123 : decode cX7_ahead 123 = .ok (.iaload, 1) := by decide +kernel
theorem dX7_ahead_124 : decode cX7_ahead 124 = .ok (.aload_n 0, 1) := by decide +kernel
theorem dX7_ahead_125 : decode cX7_ahead 125 = .ok (.getfield 13, 3) := by decide +kernel
theorem dX7_ahead_128 : decode cX7_ahead 128 = .ok (.iconst 0, 1) := by decide +kernel
theorem dX7_ahead_129 : decode cX7_ahead 129 = .ok (.iload 4, 2) := by decide +kernel
theorem dX7_ahead_131 : decode cX7_ahead 131 = .ok (.invokestatic 52, 3) := by decide +kernel
theorem dX7_ahead_134 : decode cX7_ahead 134 = .ok (.iconst 5, 1) := by decide +kernel
theorem dX7_ahead_135 : decode cX7_ahead 135 = .ok (.iadd, 1) := by decide +kernel
theorem dX7_ahead_136 : decode cX7_ahead 136 = .ok (.iaload, 1) := by decide +kernel
theorem dX7_ahead_137 : decode cX7_ahead 137 = .ok (.isub, 1) := by decide +kernel
theorem dX7_ahead_138 : decode cX7_ahead 138 = .ok (.istore 5, 2) := by decide +kernel
theorem dX7_ahead_140 : decode cX7_ahead 140 = .ok (.iload 4, 2) := by decide +kernel
theorem dX7_ahead_142 : decode cX7_ahead 142 = .ok (.ifCond .eq 23, 3) := by decide +kernel
theorem dX7_ahead_145 : decode cX7_ahead 145 = .ok (.iload_n 2, 1) := by decide +kernel
theorem dX7_ahead_146 : decode cX7_ahead 146 = .ok (.iconst 3, 1) := by decide +kernel
theorem dX7_ahead_147 : decode cX7_ahead 147 = .ok (.if_icmp .ne 12, 3) := by decide +kernel
theorem dX7_ahead_150 : decode cX7_ahead 150 = .ok (.iload 5, 2) := by decide +kernel
theorem dX7_ahead_152 : decode cX7_ahead 152 = .ok (.iload_n 3, 1) := by decide +kernel
theorem dX7_ahead_153 : decode cX7_ahead 153 = .ok (.if_icmp .le 17, 3) := by decide +kernel
theorem dX7_ahead_156 : decode cX7_ahead 156 = .ok (.goto 9, 3) := by decide +kernel
theorem dX7_ahead_159 : decode cX7_ahead 159 = .ok (.iload 5, 2) := by decide +kernel
theorem dX7_ahead_161 : decode cX7_ahead 161 = .ok (.iload_n 3, 1) := by decide +kernel
theorem dX7_ahead_162 : decode cX7_ahead 162 = .ok (.if_icmp .ge 8, 3) := by decide +kernel
theorem dX7_ahead_165 : decode cX7_ahead 165 = .ok (.iload 5, 2) := by decide +kernel
theorem dX7_ahead_167 : decode cX7_ahead 167 = .ok (.goto 4, 3) := by decide +kernel
theorem dX7_ahead_170 : decode cX7_ahead 170 = .ok (.iload_n 3, 1) := by decide +kernel
theorem dX7_ahead_171 : decode cX7_ahead 171 = .ok (.istore_n 3, 1) := by decide +kernel
theorem dX7_ahead_172 : decode cX7_ahead 172 = .ok (.iinc 4 1, 3) := by decide +kernel
theorem dX7_ahead_175 : decode cX7_ahead 175 = .ok (.goto (-73), 3) := by decide +kernel
theorem dX7_ahead_178 : decode cX7_ahead 178 = .ok (.iload_n 3, 1) := by decide +kernel
theorem dX7_ahead_179 : decode cX7_ahead 179 = .ok (.ireturn, 1) := by decide +kernel
theorem dX7_soon_0 : decode cX7_soon 0 = .ok (.aload_n 0, 1) := by decide +kernel
