theorem dX7_sent_40 : decode cX7_sent 40 = .ok (.iconst 1, 1) := by decide +kernel
theorem dX7_sent_41 : decode cX7_sent 41 = .ok (.iadd, 1) := by decide +kernel
theorem dX7_sent_42 : decode cX7_sent 42 = .ok (.dup2, 1) := by decide +kernel
theorem dX7_sent_43 : decode cX7_sent 43 = .ok (.iaload, 1) := by decide +kernel
theorem dX7_sent_44 : decode cX7_sent 44 = .ok (.iconst 1, 1) := by decide +kernel
theorem dX7_sent_45 : decode cX7_sent 45 = .ok (.iadd, 1) := by decide +kernel
theorem dX7_sent_46 : decode cX7_sent 46 = .ok (.iastore, 1) := by decide +kernel
theorem dX7_sent_47 : decode cX7_sent 47 = .ok (.aload_n 0, 1) := by decide +kernel
theorem dX7_sent_48 : decode cX7_sent 48 = .ok (.iload_n 1, 1) := by decide +kernel
theorem dX7_sent_49 : decode cX7_sent 49 = .ok (.iload_n 2, 1) := by decide +kernel
theorem dX7_sent_50 : decode cX7_sent 50 = .ok (.invokevirtual 141, 3) := by decide +kernel
theorem dX7_sent_53 : decode cX7_sent 53 = .ok (.return_, 1) := by decide +kernel
theorem dX7_isFree_0 : decode cX7_isFree 0 = .ok (.iload_n 3, 1) := by decide +kernel
theorem dX7_isFree_1 : decode cX7_isFree 1 = .ok (.aload_n 0, 1) := by decide +kernel
theorem dX7_isFree_2 : decode cX7_isFree 2 = .ok (.getfield 13, 3) := by decide +kernel
theorem dX7_isFree_5 : decode cX7_isFree 5 = .ok (.iload_n 1, 1) := by decide +kernel
theorem dX7_isFree_6 : decode cX7_isFree 6 = .ok (.iload_n 2, 1) := by decide +kernel
theorem dX7_isFree_7 : decode cX7_isFree 7 = .ok (.invokestatic 52, 3) := by decide +kernel
theorem dX7_isFree_10 : decode cX7_isFree 10 = .ok (.iconst 3, 1) := by decide +kernel
theorem dX7_isFree_11 : decode cX7_isFree 11 = .ok (.iadd, 1) := by decide +kernel
theorem dX7_isFree_12 : decode cX7_isFree 12 = .ok (.iaload, 1) := by decide +kernel
theorem dX7_isFree_13 : decode cX7_isFree 13 = .ok (.if_icmp .le 41, 3) := by decide +kernel
theorem dX7_isFree_16 : decode cX7_isFree 16 = .ok (.aload_n 0, 1) := by decide +kernel
theorem dX7_isFree_17 : decode cX7_isFree 17 = .ok (.getfield 13, 3) := by decide +kernel
theorem dX7_isFree_20 : decode cX7_isFree 20 = .ok (.sipush 440, 3) := by decide +kernel
theorem dX7_isFree_23 : decode cX7_isFree 23 = .ok (.iload_n 1, 1) := by decide +kernel
theorem dX7_isFree_24 : decode cX7_isFree 24 = .ok (.imul, 1) := by decide +kernel
theorem dX7_isFree_25 : decode cX7_isFree 25 = .ok (.sipush 420, 3) := by decide +kernel
theorem dX7_isFree_28 : decode cX7_isFree 28 = .ok (.iadd, 1) := by decide +kernel
theorem dX7_isFree_29 : decode cX7_isFree 29 = .ok (.iload_n 2, 1) := by decide +kernel
theorem dX7_isFree_30 : decode cX7_isFree 30 = .ok (.iadd, 1) := by decide +kernel
theorem dX7_isFree_31 : decode cX7_isFree 31 = .ok (.iaload, 1) := by decide +kernel
theorem dX7_isFree_32 : decode cX7_isFree 32 = .ok (.aload_n 0, 1) := by decide +kernel
theorem dX7_isFree_33 : decode cX7_isFree 33 = .ok (.getfield 13, 3) := by decide +kernel
theorem dX7_isFree_36 : decode cX7_isFree 36 = .ok (.sipush 440, 3) := by decide +kernel
theorem dX7_isFree_39 : decode cX7_isFree 39 = .ok (.iload_n 1, 1) := by decide +kernel
theorem dX7_isFree_40 : decode cX7_isFree 40 = .ok (.imul, 1) := by decide +kernel
theorem dX7_isFree_41 : decode cX7_isFree 41 = .ok (.sipush 427, 3) := by decide +kernel
theorem dX7_isFree_44 : decode cX7_isFree 44 = .ok (.iadd, 1) := by decide +kernel
theorem dX7_isFree_45 : decode cX7_isFree 45 = .ok (.iaload, 1) := by decide +kernel
theorem dX7_isFree_46 : decode cX7_isFree 46 = .ok (.iand, 1) := by decide +kernel
theorem dX7_isFree_47 : decode cX7_isFree 47 = .ok (.ifCond .ne 7, 3) := by decide +kernel
theorem dX7_isFree_50 : decode cX7_isFree 50 = .ok (.iconst 1, 1) := by decide +kernel
theorem dX7_isFree_51 : decode cX7_isFree 51 = .ok (.goto 4, 3) := by decide +kernel
theorem dX7_isFree_54 : decode cX7_isFree 54 = .ok (.iconst 0, 1) := by decide +kernel
theorem dX7_isFree_55 : decode cX7_isFree 55 = .ok (.ireturn, 1) := by decide +kernel
theorem dX7_mayBegin_0 : decode cX7_mayBegin 0 = .ok (.iload_n 1, 1) := by decide +kernel
theorem dX7_mayBegin_1 : decode cX7_mayBegin 1 = .ok (.iload_n 2, 1) := by decide +kernel
theorem dX7_mayBegin_2 : decode cX7_mayBegin 2 = .ok (.invokestatic 52, 3) := by decide +kernel
theorem dX7_mayBegin_5 : decode cX7_mayBegin 5 = .ok (.istore 4, 2) := by decide +kernel
theorem dX7_mayBegin_7 : decode cX7_mayBegin 7 = .ok (.aload_n 0, 1) := by decide +kernel
theorem dX7_mayBegin_8 : decode cX7_mayBegin 8 = .ok (.getfield 13, 3) := by decide +kernel
theorem dX7_mayBegin_11 : decode cX7_mayBegin 11 = .ok (.iload 4, 2) := by decide +kernel
theorem dX7_mayBegin_13 : decode cX7_mayBegin 13 = .ok (.bipush 26, 2) := by decide +kernel
theorem dX7_mayBegin_15 : decode cX7_mayBegin 15 = .ok (.iadd, 1) := by decide +kernel
theorem dX7_mayBegin_16 : decode cX7_mayBegin 16 = .ok (.iaload, 1) := by decide +kernel
theorem dX7_mayBegin_17 : decode cX7_mayBegin 17 = .ok (.ifCond .le 21, 3) := by decide +kernel
theorem dX7_mayBegin_20 : decode cX7_mayBegin 20 = .ok (.aload_n 0, 1) := by decide +kernel
theorem dX7_mayBegin_21 : decode cX7_mayBegin 21 = .ok (.getfield 13, 3) := by decide +kernel
theorem dX7_mayBegin_24 : decode cX7_mayBegin 24 = .ok (.iload 4, 2) := by decide +kernel
theorem dX7_mayBegin_26 : decode cX7_mayBegin 26 = .ok (.bipush 27, 2) := by decide +kernel
theorem dX7_mayBegin_28 : decode cX7_mayBegin 28 = .ok (.iadd, 1) := by decide +kernel
theorem dX7_mayBegin_29 : decode cX7_mayBegin 29 = .ok (.iaload, 1) := by decide +kernel
theorem dX7_mayBegin_30 : decode cX7_mayBegin 30 = .ok (.iload_n 3, 1) := by decide +kernel
theorem dX7_mayBegin_31 : decode cX7_mayBegin 31 = .ok (.if_icmp .ne 7, 3) := by decide +kernel
theorem dX7_mayBegin_34 : decode cX7_mayBegin 34 = .ok (.iconst 1, 1) := by decide +kernel
theorem dX7_mayBegin_35 : decode cX7_mayBegin 35 = .ok (.goto 4, 3) := by decide +kernel
theorem dX7_mayBegin_38 : decode cX7_mayBegin 38 = .ok (.iconst 0, 1) := by decide +kernel
theorem dX7_mayBegin_39 : decode cX7_mayBegin 39 = .ok (.istore 5, 2) := by decide +kernel
theorem dX7_mayBegin_41 : decode cX7_mayBegin 41 = .ok (.iload 5, 2) := by decide +kernel
theorem dX7_mayBegin_43 : decode cX7_mayBegin 43 = .ok (.ifCond .ne 30, 3) := by decide +kernel
theorem dX7_mayBegin_46 : decode cX7_mayBegin 46 = .ok (.aload_n 0, 1) := by decide +kernel
theorem dX7_mayBegin_47 : decode cX7_mayBegin 47 = .ok (.getfield 13, 3) := by decide +kernel
theorem dX7_mayBegin_50 : decode cX7_mayBegin 50 = .ok (.iload 4, 2) := by decide +kernel
theorem dX7_mayBegin_52 : decode cX7_mayBegin 52 = .ok (.bipush 8, 2) := by decide +kernel
theorem dX7_mayBegin_54 : decode cX7_mayBegin 54 = .ok (.iadd, 1) := by decide +kernel
theorem dX7_mayBegin_55 : decode cX7_mayBegin 55 = .ok (.iaload, 1) := by decide +kernel
theorem dX7_mayBegin_56 : decode cX7_mayBegin 56 = .ok (.ifCond .le 17, 3) := by decide +kernel
theorem dX7_mayBegin_59 : decode cX7_mayBegin 59 = .ok (.aload_n 0, 1) := by decide +kernel
theorem dX7_mayBegin_60 : decode cX7_mayBegin 60 = .ok (.iload_n 1, 1) := by decide +kernel
theorem dX7_mayBegin_61 : decode cX7_mayBegin 61 = .ok (.iload_n 2, 1) := by decide +kernel
theorem dX7_mayBegin_62 : decode cX7_mayBegin 62 = .ok (.iload_n 3, 1) := by decide +kernel
theorem dX7_mayBegin_63 : decode cX7_mayBegin 63 = .ok (.invokevirtual 144, 3) := by decide +kernel
theorem dX7_mayBegin_66 : decode cX7_mayBegin 66 = .ok (.ifCond .eq 7, 3) := by decide +kernel
theorem dX7_mayBegin_69 : decode cX7_mayBegin 69 = .ok (.iconst 1, 1) := by decide +kernel
theorem dX7_mayBegin_70 : decode cX7_mayBegin 70 = .ok (.goto 4, 3) := by decide +kernel
theorem dX7_mayBegin_73 : decode cX7_mayBegin 73 = .ok (.iconst 0, 1) := by decide +kernel
theorem dX7_mayBegin_74 : decode cX7_mayBegin 74 = .ok (.ireturn, 1) := by decide +kernel
theorem dX7_says_0 : decode cX7_says 0 = .ok (.iload_n 1, 1) := by decide +kernel
theorem dX7_says_1 : decode cX7_says 1 = .ok (.iload_n 2, 1) := by decide +kernel
theorem dX7_says_2 : decode cX7_says 2 = .ok (.invokestatic 52, 3) := by decide +kernel
theorem dX7_says_5 : decode cX7_says 5 = .ok (.istore 4, 2) := by decide +kernel
theorem dX7_says_7 : decode cX7_says 7 = .ok (.aload_n 0, 1) := by decide +kernel
theorem dX7_says_8 : decode cX7_says 8 = .ok (.getfield 22, 3) := by decide +kernel
theorem dX7_says_11 : decode cX7_says 11 = .ok (.iload_n 2, 1) := by decide +kernel
theorem dX7_says_12 : decode cX7_says 12 = .ok (.iconst 0, 1) := by decide +kernel
theorem dX7_says_13 : decode cX7_says 13 = .ok (.iastore, 1) := by decide +kernel
theorem dX7_says_14 : decode cX7_says 14 = .ok (.aload_n 0, 1) := by decide +kernel
theorem dX7_says_15 : decode cX7_says 15 = .ok (.getfield 25, 3) := by decide +kernel
theorem dX7_says_18 : decode cX7_says 18 = .ok (.iload_n 2, 1) := by decide +kernel
theorem dX7_says_19 : decode cX7_says 19 = .ok (.aload_n 0, 1) := by decide +kernel
theorem dX7_says_20 : decode cX7_says 20 = .ok (.getfield 13, 3) := by decide +kernel
theorem dX7_says_23 : decode cX7_says 23 = .ok (.iload 4, 2) := by decide +kernel
theorem dX7_says_25 : decode cX7_says 25 = .ok (.bipush 9, 2) := by decide +kernel
theorem dX7_says_27 : decode cX7_says 27 = .ok (.iadd, 1) := by decide +kernel
theorem dX7_says_28 : decode cX7_says 28 = .ok (.iaload, 1) := by decide +kernel
theorem dX7_says_29 : decode cX7_says 29 = .ok (.iastore, 1) := by decide +kernel
theorem dX7_says_30 : decode cX7_says 30 = .ok (.aload_n 0, 1) := by decide +kernel
theorem dX7_says_31 : decode cX7_says 31 = .ok (.getfield 28, 3) := by decide +kernel
theorem dX7_says_34 : decode cX7_says 34 = .ok (.iload_n 2, 1) := by decide +kernel
theorem dX7_says_35 : decode cX7_says 35 = .ok (.aload_n 0, 1) := by decide +kernel
theorem dX7_says_36 : decode cX7_says 36 = .ok (.getfield 13, 3) := by decide +kernel
theorem dX7_says_39 : decode cX7_says 39 = .ok (.iload 4, 2) := by decide +kernel
theorem dX7_says_41 : decode cX7_says 41 = .ok (.bipush 9, 2) := by decide +kernel
theorem dX7_says_43 : decode cX7_says 43 = .ok (.iadd, 1) := by decide +kernel
theorem dX7_says_44 : decode cX7_says 44 = .ok (.iconst 1, 1) := by decide +kernel
theorem dX7_says_45 : decode cX7_says 45 = .ok (.iadd, 1) := by decide +kernel
theorem dX7_says_46 : decode cX7_says 46 = .ok (.iaload, 1) := by decide +kernel
theorem dX7_says_47 : decode cX7_says 47 = .ok (.iastore, 1) := by decide +kernel
theorem dX7_says_48 : decode cX7_says 48 = .ok (.aload_n 0, 1) := by decide +kernel
theorem dX7_says_49 : decode cX7_says 49 = .ok (.getfield 31, 3) := by decide +kernel
theorem dX7_says_52 : decode cX7_says 52 = .ok (.iload_n 2, 1) := by decide +kernel
theorem dX7_says_53 : decode cX7_says 53 = .ok (.aload_n 0, 1) := by decide +kernel
theorem dX7_says_54 : decode cX7_says 54 = .ok (.getfield 13, 3) := by decide +kernel
theorem dX7_says_57 : decode cX7_says 57 = .ok (.iload 4, 2) := by decide +kernel
theorem dX7_says_59 : decode cX7_says 59 = .ok (.bipush 28, 2) := by decide +kernel
theorem dX7_says_61 : decode cX7_says 61 = .ok (.iadd, 1) := by decide +kernel
theorem dX7_says_62 : decode cX7_says 62 = .ok (.iaload, 1) := by decide +kernel
theorem dX7_says_63 : decode cX7_says 63 = .ok (.iastore, 1) := by decide +kernel
theorem dX7_says_64 : decode cX7_says 64 = .ok (.aload_n 0, 1) := by decide +kernel
theorem dX7_says_65 : decode cX7_says 65 = .ok (.getfield 13, 3) := by decide +kernel
theorem dX7_says_68 : decode cX7_says 68 = .ok (.iload 4, 2) := by decide +kernel
theorem dX7_says_70 : decode cX7_says 70 = .ok (.bipush 21, 2) := by decide +kernel
theorem dX7_says_72 : decode cX7_says 72 = .ok (.iadd, 1) := by decide +kernel
theorem dX7_says_73 : decode cX7_says 73 = .ok (.iaload, 1) := by decide +kernel
theorem dX7_says_74 : decode cX7_says 74 = .ok (.iload_n 3, 1) := by decide +kernel
theorem dX7_says_75 : decode cX7_says 75 = .ok (.if_icmp .ne 49, 3) := by decide +kernel
theorem dX7_says_78 : decode cX7_says 78 = .ok (.aload_n 0, 1) := by decide +kernel
theorem dX7_says_79 : decode cX7_says 79 = .ok (.getfield 22, 3) := by decide +kernel
theorem dX7_says_82 : decode cX7_says 82 = .ok (.iload_n 2, 1) := by decide +kernel
theorem dX7_says_83 : decode cX7_says 83 = .ok (.iconst 2, 1) := by decide +kernel
theorem dX7_says_84 : decode cX7_says 84 = .ok (.iastore, 1) := by decide +kernel
theorem dX7_says_85 : decode cX7_says 85 = .ok (.aload_n 0, 1) := by decide +kernel
theorem dX7_says_86 : decode cX7_says 86 = .ok (.getfield 25, 3) := by decide +kernel
theorem dX7_says_89 : decode cX7_says 89 = .ok (.iload_n 2, 1) := by decide +kernel
theorem dX7_says_90 : decode cX7_says 90 = .ok (.aload_n 0, 1) := by decide +kernel
theorem dX7_says_91 : decode cX7_says 91 = .ok (.getfield 13, 3) := by decide +kernel
theorem dX7_says_94 : decode cX7_says 94 = .ok (.iload 4, 2) := by decide +kernel
theorem dX7_says_96 : decode cX7_says 96 = .ok (.bipush 21, 2) := by decide +kernel
theorem dX7_says_98 : decode cX7_says 98 = .ok (.iadd, 1) := by decide +kernel
theorem dX7_says_99 : decode cX7_says 99 = .ok (.iconst 1, 1) := by decide +kernel
theorem dX7_says_100 : decode cX7_says 100 = .ok (.iadd, 1) := by decide +kernel
theorem dX7_says_101 : decode cX7_says 101 = .ok (.iaload, 1) := by decide +kernel
theorem dX7_says_102 : decode cX7_says 102 = .ok (.iastore, 1) := by decide +kernel
theorem dX7_says_103 : decode cX7_says 103 = .ok (.aload_n 0, 1) := by decide +kernel
theorem dX7_says_104 : decode cX7_says 104 = .ok (.getfield 28, 3) := by decide +kernel
theorem dX7_says_107 : decode cX7_says 107 = .ok (.iload_n 2, 1) := by decide +kernel
theorem dX7_says_108 : decode cX7_says 108 = .ok (.aload_n 0, 1) := by decide +kernel
theorem dX7_says_109 : decode cX7_says 109 = .ok (.getfield 13, 3) := by decide +kernel
theorem dX7_says_112 : decode cX7_says 112 = .ok (.iload 4, 2) := by decide +kernel
theorem dX7_says_114 : decode cX7_says 114 = .ok (.bipush 21, 2) := by decide +kernel
theorem dX7_says_116 : decode cX7_says 116 = .ok (.iadd, 1) := by decide +kernel
theorem dX7_says_117 : decode cX7_says 117 = .ok (.iconst 2, 1) := by decide +kernel
theorem dX7_says_118 : decode cX7_says 118 = .ok (.iadd, 1) := by decide +kernel
theorem dX7_says_119 : decode cX7_says 119 = .ok (.iaload, 1) := by decide +kernel
theorem dX7_says_120 : decode cX7_says 120 = .ok (.iastore, 1) := by decide +kernel
theorem dX7_says_121 : decode cX7_says 121 = .ok (.goto 115, 3) := by decide +kernel
theorem dX7_says_124 : decode cX7_says 124 = .ok (.aload_n 0, 1) := by decide +kernel
theorem dX7_says_125 : decode cX7_says 125 = .ok (.getfield 13, 3) := by decide +kernel
theorem dX7_says_128 : decode cX7_says 128 = .ok (.iload 4, 2) := by decide +kernel
theorem dX7_says_130 : decode cX7_says 130 = .ok (.bipush 24, 2) := by decide +kernel
theorem dX7_says_132 : decode cX7_says 132 = .ok (.iadd, 1) := by decide +kernel
theorem dX7_says_133 : decode cX7_says 133 = .ok (.iaload, 1) := by decide +kernel
theorem dX7_says_134 : decode cX7_says 134 = .ok (.iload_n 3, 1) := by decide +kernel
theorem dX7_says_135 : decode cX7_says 135 = .ok (.if_icmp .ne 31, 3) := by decide +kernel
theorem dX7_says_138 : decode cX7_says 138 = .ok (.aload_n 0, 1) := by decide +kernel
theorem dX7_says_139 : decode cX7_says 139 = .ok (.getfield 22, 3) := by decide +kernel
theorem dX7_says_142 : decode cX7_says 142 = .ok (.iload_n 2, 1) := by decide +kernel
theorem dX7_says_143 : decode cX7_says 143 = .ok (.iconst 4, 1) := by decide +kernel
theorem dX7_says_144 : decode cX7_says 144 = .ok (.iastore, 1) := by decide +kernel
theorem dX7_says_145 : decode cX7_says 145 = .ok (.aload_n 0, 1) := by decide +kernel
theorem dX7_says_146 : decode cX7_says 146 = .ok (.getfield 25, 3) := by decide +kernel
theorem dX7_says_149 : decode cX7_says 149 = .ok (.iload_n 2, 1) := by decide +kernel
theorem dX7_says_150 : decode cX7_says 150 = .ok (.aload_n 0, 1) := by decide +kernel
theorem dX7_says_151 : decode cX7_says 151 = .ok (.getfield 13, 3) := by decide +kernel
theorem dX7_says_154 : decode cX7_says 154 = .ok (.iload 4, 2) := by decide +kernel
theorem dX7_says_156 : decode cX7_says 156 = .ok (.bipush 24, 2) := by decide +kernel
theorem dX7_says_158 : decode cX7_says 158 = .ok (.iadd, 1) := by decide +kernel
theorem dX7_says_159 : decode cX7_says 159 = .ok (.iconst 1, 1) := by decide +kernel
theorem dX7_says_160 : decode cX7_says 160 = .ok (.iadd, 1) := by decide +kernel
theorem dX7_says_161 : decode cX7_says 161 = .ok (.iaload, 1) := by decide +kernel
theorem dX7_says_162 : decode cX7_says 162 = .ok (.iastore, 1) := by decide +kernel
theorem dX7_says_163 : decode cX7_says 163 = .ok (.goto 73, 3) := by decide +kernel
theorem dX7_says_166 : decode cX7_says 166 = .ok (.aload_n 0, 1) := by decide +kernel
theorem dX7_says_167 : decode cX7_says 167 = .ok (.getfield 13, 3) := by decide +kernel
theorem dX7_says_170 : decode cX7_says 170 = .ok (.iload 4, 2) := by decide +kernel
theorem dX7_says_172 : decode cX7_says 172 = .ok (.bipush 29, 2) := by decide +kernel
theorem dX7_says_174 : decode cX7_says 174 = .ok (.iadd, 1) := by decide +kernel
theorem dX7_says_175 : decode cX7_says 175 = .ok (.iaload, 1) := by decide +kernel
theorem dX7_says_176 : decode cX7_says 176 = .ok (.iconst 1, 1) := by decide +kernel
theorem dX7_says_177 : decode cX7_says 177 = .ok (.if_icmp .ne 13, 3) := by decide +kernel
theorem dX7_says_180 : decode cX7_says 180 = .ok (.aload_n 0, 1) := by decide +kernel
theorem dX7_says_181 : decode cX7_says 181 = .ok (.getfield 22, 3) := by decide +kernel
theorem dX7_says_184 : decode cX7_says 184 = .ok (.iload_n 2, 1) := by decide +kernel
theorem dX7_says_185 : decode cX7_says 185 = .ok (.iconst 3, 1) := by decide +kernel
theorem dX7_says_186 : decode cX7_says 186 = .ok (.iastore, 1) := by decide +kernel
theorem dX7_says_187 : decode cX7_says 187 = .ok (.goto 49, 3) := by decide +kernel
theorem dX7_says_190 : decode cX7_says 190 = .ok (.aload_n 0, 1) := by decide +kernel
theorem dX7_says_191 : decode cX7_says 191 = .ok (.iload_n 1, 1) := by decide +kernel
theorem dX7_says_192 : decode cX7_says 192 = .ok (.iload_n 2, 1) := by decide +kernel
theorem dX7_says_193 : decode cX7_says 193 = .ok (.iload_n 3, 1) := by decide +kernel
theorem dX7_says_194 : decode cX7_says 194 = .ok (.invokevirtual 147, 3) := by decide +kernel
theorem dX7_says_197 : decode cX7_says 197 = .ok (.ifCond .eq 39, 3) := by decide +kernel
theorem dX7_says_200 : decode cX7_says 200 = .ok (.aload_n 0, 1) := by decide +kernel
theorem dX7_says_201 : decode cX7_says 201 = .ok (.getfield 13, 3) := by decide +kernel
theorem dX7_says_204 : decode cX7_says 204 = .ok (.iload 4, 2) := by decide +kernel
theorem dX7_says_206 : decode cX7_says 206 = .ok (.iconst 2, 1) := by decide +kernel
theorem dX7_says_207 : decode cX7_says 207 = .ok (.iadd, 1) := by decide +kernel
theorem dX7_says_208 : decode cX7_says 208 = .ok (.iaload, 1) := by decide +kernel
theorem dX7_says_209 : decode cX7_says 209 = .ok (.ifCond .ne 27, 3) := by decide +kernel
theorem dX7_says_212 : decode cX7_says 212 = .ok (.aload_n 0, 1) := by decide +kernel
theorem dX7_says_213 : decode cX7_says 213 = .ok (.getfield 22, 3) := by decide +kernel
theorem dX7_says_216 : decode cX7_says 216 = .ok (.iload_n 2, 1) := by decide +kernel
theorem dX7_says_217 : decode cX7_says 217 = .ok (.aload_n 0, 1) := by decide +kernel
theorem dX7_says_218 : decode cX7_says 218 = .ok (.getfield 28, 3) := by decide +kernel
theorem dX7_says_221 : decode cX7_says 221 = .ok (.iload_n 2, 1) := by decide +kernel
theorem dX7_says_222 : decode cX7_says 222 = .ok (.iaload, 1) := by decide +kernel
theorem dX7_says_223 : decode cX7_says 223 = .ok (.aload_n 0, 1) := by decide +kernel
theorem dX7_says_224 : decode cX7_says 224 = .ok (.getfield 65, 3) := by decide +kernel
theorem dX7_says_227 : decode cX7_says 227 = .ok (.if_icmp .lt 7, 3) := by decide +kernel
theorem dX7_says_230 : decode cX7_says 230 = .ok (.iconst 1, 1) := by decide +kernel
theorem dX7_says_231 : decode cX7_says 231 = .ok (.goto 4, 3) := by decide +kernel
theorem dX7_says_234 : decode cX7_says 234 = .ok (.iconst 3, 1) := by decide +kernel
theorem dX7_says_235 : decode cX7_says 235 = .ok (.iastore, 1) := by decide +kernel
theorem dX7_says_236 : decode cX7_says 236 = .ok (.return_, 1) := by decide +kernel
theorem dX7_sends_0 : decode cX7_sends 0 = .ok (.iload_n 1, 1) := by decide +kernel
theorem dX7_sends_1 : decode cX7_sends 1 = .ok (.iload_n 2, 1) := by decide +kernel
theorem dX7_sends_2 : decode cX7_sends 2 = .ok (.invokestatic 52, 3) := by decide +kernel
theorem dX7_sends_5 : decode cX7_sends 5 = .ok (.istore 4, 2) := by decide +kernel
theorem dX7_sends_7 : decode cX7_sends 7 = .ok (.aload_n 0, 1) := by decide +kernel
theorem dX7_sends_8 : decode cX7_sends 8 = .ok (.getfield 22, 3) := by decide +kernel
theorem dX7_sends_11 : decode cX7_sends 11 = .ok (.iload_n 2, 1) := by decide +kernel
theorem dX7_sends_12 : decode cX7_sends 12 = .ok (.iaload, 1) := by decide +kernel
theorem dX7_sends_13 : decode cX7_sends 13 = .ok (.ifCond .ne 33, 3) := by decide +kernel
theorem dX7_sends_16 : decode cX7_sends 16 = .ok (.aload_n 0, 1) := by decide +kernel
theorem dX7_sends_17 : decode cX7_sends 17 = .ok (.getfield 13, 3) := by decide +kernel
theorem dX7_sends_20 : decode cX7_sends 20 = .ok (.iload 4, 2) := by decide +kernel
theorem dX7_sends_22 : decode cX7_sends 22 = .ok (.iconst 2, 1) := by decide +kernel
theorem dX7_sends_23 : decode cX7_sends 23 = .ok (.iadd, 1) := by decide +kernel
theorem dX7_sends_24 : decode cX7_sends 24 = .ok (.dup2, 1) := by decide +kernel
theorem dX7_sends_25 : decode cX7_sends 25 = .ok (.iaload, 1) := by decide +kernel
theorem dX7_sends_26 : decode cX7_sends 26 = .ok (.aload_n 0, 1) := by decide +kernel
theorem dX7_sends_27 : decode cX7_sends 27 = .ok (.iload_n 1, 1) := by decide +kernel
theorem dX7_sends_28 : decode cX7_sends 28 = .ok (.iload_n 2, 1) := by decide +kernel
theorem dX7_sends_29 : decode cX7_sends 29 = .ok (.iload_n 3, 1) := by decide +kernel
theorem dX7_sends_30 : decode cX7_sends 30 = .ok (.invokevirtual 147, 3) := by decide +kernel
theorem dX7_sends_33 : decode cX7_sends 33 = .ok (.ifCond .eq 7, 3) := by decide +kernel
theorem dX7_sends_36 : decode cX7_sends 36 = .ok (.iconst 1, 1) := by decide +kernel
theorem dX7_sends_37 : decode cX7_sends 37 = .ok (.goto 4, 3) := by decide +kernel
theorem dX7_sends_40 : decode cX7_sends 40 = .ok (.iconst 0, 1) := by decide +kernel
theorem dX7_sends_41 : decode cX7_sends 41 = .ok (.isub, 1) := by decide +kernel
theorem dX7_sends_42 : decode cX7_sends 42 = .ok (.iastore, 1) := by decide +kernel
theorem dX7_sends_43 : decode cX7_sends 43 = .ok (.goto 135, 3) := by decide +kernel
theorem dX7_sends_46 : decode cX7_sends 46 = .ok (.aload_n 0, 1) := by decide +kernel
theorem dX7_sends_47 : decode cX7_sends 47 = .ok (.getfield 22, 3) := by decide +kernel
theorem dX7_sends_50 : decode cX7_sends 50 = .ok (.iload_n 2, 1) := by decide +kernel
theorem dX7_sends_51 : decode cX7_sends 51 = .ok (.iaload, 1) := by decide +kernel
theorem dX7_sends_52 : decode cX7_sends 52 = .ok (.iconst 1, 1) := by decide +kernel
theorem dX7_sends_53 : decode cX7_sends 53 = .ok (.if_icmp .ne 30, 3) := by decide +kernel
theorem dX7_sends_56 : decode cX7_sends 56 = .ok (.aload_n 0, 1) := by decide +kernel
theorem dX7_sends_57 : decode cX7_sends 57 = .ok (.getfield 13, 3) := by decide +kernel
theorem dX7_sends_60 : decode cX7_sends 60 = .ok (.iload 4, 2) := by decide +kernel
theorem dX7_sends_62 : decode cX7_sends 62 = .ok (.bipush 26, 2) := by decide +kernel
theorem dX7_sends_64 : decode cX7_sends 64 = .ok (.iadd, 1) := by decide +kernel
theorem dX7_sends_65 : decode cX7_sends 65 = .ok (.iconst 1, 1) := by decide +kernel
theorem dX7_sends_66 : decode cX7_sends 66 = .ok (.iastore, 1) := by decide +kernel
theorem dX7_sends_67 : decode cX7_sends 67 = .ok (.aload_n 0, 1) := by decide +kernel
theorem dX7_sends_68 : decode cX7_sends 68 = .ok (.getfield 13, 3) := by decide +kernel
theorem dX7_sends_71 : decode cX7_sends 71 = .ok (.iload 4, 2) := by decide +kernel
theorem dX7_sends_73 : decode cX7_sends 73 = .ok (.bipush 27, 2) := by decide +kernel
theorem dX7_sends_75 : decode cX7_sends 75 = .ok (.iadd, 1) := by decide +kernel
theorem dX7_sends_76 : decode cX7_sends 76 = .ok (.iload_n 3, 1) := by decide +kernel
theorem dX7_sends_77 : decode cX7_sends 77 = .ok (.iconst 1, 1) := by decide +kernel
theorem dX7_sends_78 : decode cX7_sends 78 = .ok (.iadd, 1) := by decide +kernel
theorem dX7_sends_79 : decode cX7_sends 79 = .ok (.iastore, 1) := by decide +kernel
theorem dX7_sends_80 : decode cX7_sends 80 = .ok (.goto 98, 3) := by decide +kernel
theorem dX7_sends_83 : decode cX7_sends 83 = .ok (.aload_n 0, 1) := by decide +kernel
theorem dX7_sends_84 : decode cX7_sends 84 = .ok (.getfield 22, 3) := by decide +kernel
theorem dX7_sends_87 : decode cX7_sends 87 = .ok (.iload_n 2, 1) := by decide +kernel
theorem dX7_sends_88 : decode cX7_sends 88 = .ok (.iaload, 1) := by decide +kernel
theorem dX7_sends_89 : decode cX7_sends 89 = .ok (.iconst 3, 1) := by decide +kernel
theorem dX7_sends_90 : decode cX7_sends 90 = .ok (.if_icmp .ne 88, 3) := by decide +kernel
theorem dX7_sends_93 : decode cX7_sends 93 = .ok (.aload_n 0, 1) := by decide +kernel
theorem dX7_sends_94 : decode cX7_sends 94 = .ok (.getfield 13, 3) := by decide +kernel
theorem dX7_sends_97 : decode cX7_sends 97 = .ok (.iload 4, 2) := by decide +kernel
theorem dX7_sends_99 : decode cX7_sends 99 = .ok (.bipush 28, 2) := by decide +kernel
theorem dX7_sends_101 : decode cX7_sends 101 = .ok (.iadd, 1) := by decide +kernel
theorem dX7_sends_102 : decode cX7_sends 102 = .ok (.dup2, 1) := by decide +kernel
theorem dX7_sends_103 : decode cX7_sends 103 = .ok (.iaload, 1) := by decide +kernel
theorem dX7_sends_104 : decode cX7_sends 104 = .ok (.iconst 1, 1) := by decide +kernel
theorem dX7_sends_105 : decode cX7_sends 105 = .ok (.iadd, 1) := by decide +kernel
theorem dX7_sends_106 : decode cX7_sends 106 = .ok (.iastore, 1) := by decide +kernel
theorem dX7_sends_107 : decode cX7_sends 107 = .ok (.aload_n 0, 1) := by decide +kernel
theorem dX7_sends_108 : decode cX7_sends 108 = .ok (.getfield 13, 3) := by decide +kernel
theorem dX7_sends_111 : decode cX7_sends 111 = .ok (.iload 4, 2) := by decide +kernel
theorem dX7_sends_113 : decode cX7_sends 113 = .ok (.bipush 29, 2) := by decide +kernel
theorem dX7_sends_115 : decode cX7_sends 115 = .ok (.iadd, 1) := by decide +kernel
theorem dX7_sends_116 : decode cX7_sends 116 = .ok (.aload_n 0, 1) := by decide +kernel
theorem dX7_sends_117 : decode cX7_sends 117 = .ok (.getfield 13, 3) := by decide +kernel
theorem dX7_sends_120 : decode cX7_sends 120 = .ok (.iload 4, 2) := by decide +kernel
theorem dX7_sends_122 : decode cX7_sends 122 = .ok (.bipush 28, 2) := by decide +kernel
theorem dX7_sends_124 : decode cX7_sends 124 = .ok (.iadd, 1) := by decide +kernel
theorem dX7_sends_125 : decode cX7_sends 125 = .ok (.iaload, 1) := by decide +kernel
theorem dX7_sends_126 : decode cX7_sends 126 = .ok (.aload_n 0, 1) := by decide +kernel
theorem dX7_sends_127 : decode cX7_sends 127 = .ok (.getfield 28, 3) := by decide +kernel
theorem dX7_sends_130 : decode cX7_sends 130 = .ok (.iload_n 2, 1) := by decide +kernel
theorem dX7_sends_131 : decode cX7_sends 131 = .ok (.iaload, 1) := by decide +kernel
theorem dX7_sends_132 : decode cX7_sends 132 = .ok (.if_icmp .ge 7, 3) := by decide +kernel
theorem dX7_sends_135 : decode cX7_sends 135 = .ok (.iconst 1, 1) := by decide +kernel
theorem dX7_sends_136 : decode cX7_sends 136 = .ok (.goto 4, 3) := by decide +kernel
theorem dX7_sends_139 : decode cX7_sends 139 = .ok (.iconst 0, 1) := by decide +kernel
theorem dX7_sends_140 : decode cX7_sends 140 = .ok (.iastore, 1) := by decide +kernel
theorem dX7_sends_141 : decode cX7_sends 141 = .ok (.aload_n 0, 1) := by decide +kernel
theorem dX7_sends_142 : decode cX7_sends 142 = .ok (.getfield 13, 3) := by decide +kernel
theorem dX7_sends_145 : decode cX7_sends 145 = .ok (.iload 4, 2) := by decide +kernel
theorem dX7_sends_147 : decode cX7_sends 147 = .ok (.bipush 29, 2) := by decide +kernel
theorem dX7_sends_149 : decode cX7_sends 149 = .ok (.iadd, 1) := by decide +kernel
theorem dX7_sends_150 : decode cX7_sends 150 = .ok (.iaload, 1) := by decide +kernel
theorem dX7_sends_151 : decode cX7_sends 151 = .ok (.ifCond .ne 27, 3) := by decide +kernel
theorem dX7_sends_154 : decode cX7_sends 154 = .ok (.aload_n 0, 1) := by decide +kernel
theorem dX7_sends_155 : decode cX7_sends 155 = .ok (.getfield 13, 3) := by decide +kernel
theorem dX7_sends_158 : decode cX7_sends 158 = .ok (.iload 4, 2) := by decide +kernel
theorem dX7_sends_160 : decode cX7_sends 160 = .ok (.bipush 26, 2) := by decide +kernel
theorem dX7_sends_162 : decode cX7_sends 162 = .ok (.iadd, 1) := by decide +kernel
theorem dX7_sends_163 : decode cX7_sends 163 = .ok (.iconst 2, 1) := by decide +kernel
theorem dX7_sends_164 : decode cX7_sends 164 = .ok (.iastore, 1) := by decide +kernel
theorem dX7_sends_165 : decode cX7_sends 165 = .ok (.aload_n 0, 1) := by decide +kernel
theorem dX7_sends_166 : decode cX7_sends 166 = .ok (.getfield 13, 3) := by decide +kernel
theorem dX7_sends_169 : decode cX7_sends 169 = .ok (.iload 4, 2) := by decide +kernel
theorem dX7_sends_171 : decode cX7_sends 171 = .ok (.bipush 27, 2) := by decide +kernel
theorem dX7_sends_173 : decode cX7_sends 173 = .ok (.iadd, 1) := by decide +kernel
theorem dX7_sends_174 : decode cX7_sends 174 = .ok (.iload_n 3, 1) := by decide +kernel
theorem dX7_sends_175 : decode cX7_sends 175 = .ok (.iconst 1, 1) := by decide +kernel
theorem dX7_sends_176 : decode cX7_sends 176 = .ok (.iadd, 1) := by decide +kernel
theorem dX7_sends_177 : decode cX7_sends 177 = .ok (.iastore, 1) := by decide +kernel
theorem dX7_sends_178 : decode cX7_sends 178 = .ok (.return_, 1) := by decide +kernel
theorem dX7_takesOwn_0 : decode cX7_takesOwn 0 = .ok (.iload_n 1, 1) := by decide +kernel
theorem dX7_takesOwn_1 : decode cX7_takesOwn 1 = .ok (.iload_n 2, 1) := by decide +kernel
theorem dX7_takesOwn_2 : decode cX7_takesOwn 2 = .ok (.invokestatic 52, 3) := by decide +kernel
theorem dX7_takesOwn_5 : decode cX7_takesOwn 5 = .ok (.istore 5, 2) := by decide +kernel
theorem dX7_takesOwn_7 : decode cX7_takesOwn 7 = .ok (.aload_n 0, 1) := by decide +kernel
theorem dX7_takesOwn_8 : decode cX7_takesOwn 8 = .ok (.getfield 13, 3) := by decide +kernel
theorem dX7_takesOwn_11 : decode cX7_takesOwn 11 = .ok (.iload 5, 2) := by decide +kernel
theorem dX7_takesOwn_13 : decode cX7_takesOwn 13 = .ok (.bipush 27, 2) := by decide +kernel
theorem dX7_takesOwn_15 : decode cX7_takesOwn 15 = .ok (.iadd, 1) := by decide +kernel
theorem dX7_takesOwn_16 : decode cX7_takesOwn 16 = .ok (.iaload, 1) := by decide +kernel
theorem dX7_takesOwn_17 : decode cX7_takesOwn 17 = .ok (.iload 4, 2) := by decide +kernel
theorem dX7_takesOwn_19 : decode cX7_takesOwn 19 = .ok (.if_icmp .ne 7, 3) := by decide +kernel
theorem dX7_takesOwn_22 : decode cX7_takesOwn 22 = .ok (.iconst 1, 1) := by decide +kernel
theorem dX7_takesOwn_23 : decode cX7_takesOwn 23 = .ok (.goto 4, 3) := by decide +kernel
theorem dX7_takesOwn_26 : decode cX7_takesOwn 26 = .ok (.iconst 0, 1) := by decide +kernel
theorem dX7_takesOwn_27 : decode cX7_takesOwn 27 = .ok (.istore 6, 2) := by decide +kernel
theorem dX7_takesOwn_29 : decode cX7_takesOwn 29 = .ok (.aload_n 0, 1) := by decide +kernel
theorem dX7_takesOwn_30 : decode cX7_takesOwn 30 = .ok (.getfield 22, 3) := by decide +kernel
theorem dX7_takesOwn_33 : decode cX7_takesOwn 33 = .ok (.iload_n 3, 1) := by decide +kernel
theorem dX7_takesOwn_34 : decode cX7_takesOwn 34 = .ok (.iaload, 1) := by decide +kernel
theorem dX7_takesOwn_35 : decode cX7_takesOwn 35 = .ok (.iconst 1, 1) := by decide +kernel
theorem dX7_takesOwn_36 : decode cX7_takesOwn 36 = .ok (.if_icmp .ne 62, 3) := by decide +kernel
theorem dX7_takesOwn_39 : decode cX7_takesOwn 39 = .ok (.iload 4, 2) := by decide +kernel
theorem dX7_takesOwn_41 : decode cX7_takesOwn 41 = .ok (.aload_n 0, 1) := by decide +kernel
theorem dX7_takesOwn_42 : decode cX7_takesOwn 42 = .ok (.getfield 13, 3) := by decide +kernel
theorem dX7_takesOwn_45 : decode cX7_takesOwn 45 = .ok (.iload 5, 2) := by decide +kernel
theorem dX7_takesOwn_47 : decode cX7_takesOwn 47 = .ok (.iconst 3, 1) := by decide +kernel
theorem dX7_takesOwn_48 : decode cX7_takesOwn 48 = .ok (.iadd, 1) := by decide +kernel
theorem dX7_takesOwn_49 : decode cX7_takesOwn 49 = .ok (.iaload, 1) := by decide +kernel
theorem dX7_takesOwn_50 : decode cX7_takesOwn 50 = .ok (.if_icmp .le 48, 3) := by decide +kernel
theorem dX7_takesOwn_53 : decode cX7_takesOwn 53 = .ok (.aload_n 0, 1) := by decide +kernel
theorem dX7_takesOwn_54 : decode cX7_takesOwn 54 = .ok (.getfield 13, 3) := by decide +kernel
theorem dX7_takesOwn_57 : decode cX7_takesOwn 57 = .ok (.iload 5, 2) := by decide +kernel
theorem dX7_takesOwn_59 : decode cX7_takesOwn 59 = .ok (.bipush 21, 2) := by decide +kernel
theorem dX7_takesOwn_61 : decode cX7_takesOwn 61 = .ok (.iadd, 1) := by decide +kernel
theorem dX7_takesOwn_62 : decode cX7_takesOwn 62 = .ok (.iload 4, 2) := by decide +kernel
theorem dX7_takesOwn_64 : decode cX7_takesOwn 64 = .ok (.iconst 1, 1) := by decide +kernel
theorem dX7_takesOwn_65 : decode cX7_takesOwn 65 = .ok (.iadd, 1) := by decide +kernel
theorem dX7_takesOwn_66 : decode cX7_takesOwn 66 = .ok (.iastore, 1) := by decide +kernel
theorem dX7_takesOwn_67 : decode cX7_takesOwn 67 = .ok (.aload_n 0, 1) := by decide +kernel
theorem dX7_takesOwn_68 : decode cX7_takesOwn 68 = .ok (.getfield 13, 3) := by decide +kernel
theorem dX7_takesOwn_71 : decode cX7_takesOwn 71 = .ok (.iload 5, 2) := by decide +kernel
theorem dX7_takesOwn_73 : decode cX7_takesOwn 73 = .ok (.bipush 21, 2) := by decide +kernel
theorem dX7_takesOwn_75 : decode cX7_takesOwn 75 = .ok (.iadd, 1) := by decide +kernel
theorem dX7_takesOwn_76 : decode cX7_takesOwn 76 = .ok (.iconst 1, 1) := by decide +kernel
theorem dX7_takesOwn_77 : decode cX7_takesOwn 77 = .ok (.iadd, 1) := by decide +kernel
theorem dX7_takesOwn_78 : decode cX7_takesOwn 78 = .ok (.iload_n 3, 1) := by decide +kernel
theorem dX7_takesOwn_79 : decode cX7_takesOwn 79 = .ok (.iastore, 1) := by decide +kernel
theorem dX7_takesOwn_80 : decode cX7_takesOwn 80 = .ok (.aload_n 0, 1) := by decide +kernel
theorem dX7_takesOwn_81 : decode cX7_takesOwn 81 = .ok (.getfield 13, 3) := by decide +kernel
theorem dX7_takesOwn_84 : decode cX7_takesOwn 84 = .ok (.iload 5, 2) := by decide +kernel
theorem dX7_takesOwn_86 : decode cX7_takesOwn 86 = .ok (.bipush 21, 2) := by decide +kernel
theorem dX7_takesOwn_88 : decode cX7_takesOwn 88 = .ok (.iadd, 1) := by decide +kernel
theorem dX7_takesOwn_89 : decode cX7_takesOwn 89 = .ok (.iconst 2, 1) := by decide +kernel
theorem dX7_takesOwn_90 : decode cX7_takesOwn 90 = .ok (.iadd, 1) := by decide +kernel
theorem dX7_takesOwn_91 : decode cX7_takesOwn 91 = .ok (.aload_n 0, 1) := by decide +kernel
theorem dX7_takesOwn_92 : decode cX7_takesOwn 92 = .ok (.getfield 28, 3) := by decide +kernel
theorem dX7_takesOwn_95 : decode cX7_takesOwn 95 = .ok (.iload_n 3, 1) := by decide +kernel
theorem dX7_takesOwn_96 : decode cX7_takesOwn 96 = .ok (.iaload, 1) := by decide +kernel
theorem dX7_takesOwn_97 : decode cX7_takesOwn 97 = .ok (.iastore, 1) := by decide +kernel
theorem dX7_takesOwn_98 : decode cX7_takesOwn 98 = .ok (.aload_n 0, 1) := by decide +kernel
theorem dX7_takesOwn_99 : decode cX7_takesOwn 99 = .ok (.getfield 22, 3) := by decide +kernel
theorem dX7_takesOwn_102 : decode cX7_takesOwn 102 = .ok (.iload_n 3, 1) := by decide +kernel
theorem dX7_takesOwn_103 : decode cX7_takesOwn 103 = .ok (.iaload, 1) := by decide +kernel
theorem dX7_takesOwn_104 : decode cX7_takesOwn 104 = .ok (.iconst 2, 1) := by decide +kernel
theorem dX7_takesOwn_105 : decode cX7_takesOwn 105 = .ok (.if_icmp .ne 46, 3) := by decide +kernel
theorem dX7_takesOwn_108 : decode cX7_takesOwn 108 = .ok (.iload 6, 2) := by decide +kernel
theorem dX7_takesOwn_110 : decode cX7_takesOwn 110 = .ok (.ifCond .eq 41, 3) := by decide +kernel
theorem dX7_takesOwn_113 : decode cX7_takesOwn 113 = .ok (.aload_n 0, 1) := by decide +kernel
theorem dX7_takesOwn_114 : decode cX7_takesOwn 114 = .ok (.getfield 13, 3) := by decide +kernel
theorem dX7_takesOwn_117 : decode cX7_takesOwn 117 = .ok (.iload 5, 2) := by decide +kernel
theorem dX7_takesOwn_119 : decode cX7_takesOwn 119 = .ok (.bipush 26, 2) := by decide +kernel
theorem dX7_takesOwn_121 : decode cX7_takesOwn 121 = .ok (.iadd, 1) := by decide +kernel
theorem dX7_takesOwn_122 : decode cX7_takesOwn 122 = .ok (.iaload, 1) := by decide +kernel
theorem dX7_takesOwn_123 : decode cX7_takesOwn 123 = .ok (.iconst 1, 1) := by decide +kernel
theorem dX7_takesOwn_124 : decode cX7_takesOwn 124 = .ok (.if_icmp .ne 27, 3) := by decide +kernel
theorem dX7_takesOwn_127 : decode cX7_takesOwn 127 = .ok (.aload_n 0, 1) := by decide +kernel
theorem dX7_takesOwn_128 : decode cX7_takesOwn 128 = .ok (.getfield 13, 3) := by decide +kernel
theorem dX7_takesOwn_131 : decode cX7_takesOwn 131 = .ok (.iload 5, 2) := by decide +kernel
theorem dX7_takesOwn_133 : decode cX7_takesOwn 133 = .ok (.bipush 26, 2) := by decide +kernel
theorem dX7_takesOwn_135 : decode cX7_takesOwn 135 = .ok (.iadd, 1) := by decide +kernel
theorem dX7_takesOwn_136 : decode cX7_takesOwn 136 = .ok (.iconst 0, 1) := by decide +kernel
theorem dX7_takesOwn_137 : decode cX7_takesOwn 137 = .ok (.iastore, 1) := by decide +kernel
theorem dX7_takesOwn_138 : decode cX7_takesOwn 138 = .ok (.aload_n 0, 1) := by decide +kernel
theorem dX7_takesOwn_139 : decode cX7_takesOwn 139 = .ok (.getfield 13, 3) := by decide +kernel
theorem dX7_takesOwn_142 : decode cX7_takesOwn 142 = .ok (.iload 5, 2) := by decide +kernel
theorem dX7_takesOwn_144 : decode cX7_takesOwn 144 = .ok (.bipush 29, 2) := by decide +kernel
theorem dX7_takesOwn_146 : decode cX7_takesOwn 146 = .ok (.iadd, 1) := by decide +kernel
theorem dX7_takesOwn_147 : decode cX7_takesOwn 147 = .ok (.iconst 1, 1) := by decide +kernel
theorem dX7_takesOwn_148 : decode cX7_takesOwn 148 = .ok (.iastore, 1) := by decide +kernel
theorem dX7_takesOwn_149 : decode cX7_takesOwn 149 = .ok (.iconst 1, 1) := by decide +kernel
theorem dX7_takesOwn_150 : decode cX7_takesOwn 150 = .ok (.ireturn, 1) := by decide +kernel
theorem dX7_takesOwn_151 : decode cX7_takesOwn 151 = .ok (.aload_n 0, 1) := by decide +kernel
theorem dX7_takesOwn_152 : decode cX7_takesOwn 152 = .ok (.getfield 22, 3) := by decide +kernel
theorem dX7_takesOwn_155 : decode cX7_takesOwn 155 = .ok (.iload_n 3, 1) := by decide +kernel
theorem dX7_takesOwn_156 : decode cX7_takesOwn 156 = .ok (.iaload, 1) := by decide +kernel
theorem dX7_takesOwn_157 : decode cX7_takesOwn 157 = .ok (.iconst 3, 1) := by decide +kernel
theorem dX7_takesOwn_158 : decode cX7_takesOwn 158 = .ok (.if_icmp .ne 168, 3) := by decide +kernel
theorem dX7_takesOwn_161 : decode cX7_takesOwn 161 = .ok (.aload_n 0, 1) := by decide +kernel
theorem dX7_takesOwn_162 : decode cX7_takesOwn 162 = .ok (.getfield 31, 3) := by decide +kernel
theorem dX7_takesOwn_165 : decode cX7_takesOwn 165 = .ok (.iload_n 3, 1) := by decide +kernel
theorem dX7_takesOwn_166 : decode cX7_takesOwn 166 = .ok (.iaload, 1) := by decide +kernel
theorem dX7_takesOwn_167 : decode cX7_takesOwn 167 = .ok (.ifCond .eq 53, 3) := by decide +kernel
theorem dX7_takesOwn_170 : decode cX7_takesOwn 170 = .ok (.aload_n 0, 1) := by decide +kernel
theorem dX7_takesOwn_171 : decode cX7_takesOwn 171 = .ok (.getfield 13, 3) := by decide +kernel
theorem dX7_takesOwn_174 : decode cX7_takesOwn 174 = .ok (.iload 5, 2) := by decide +kernel
theorem dX7_takesOwn_176 : decode cX7_takesOwn 176 = .ok (.bipush 30, 2) := by decide +kernel
theorem dX7_takesOwn_178 : decode cX7_takesOwn 178 = .ok (.iadd, 1) := by decide +kernel
theorem dX7_takesOwn_179 : decode cX7_takesOwn 179 = .ok (.iaload, 1) := by decide +kernel
theorem dX7_takesOwn_180 : decode cX7_takesOwn 180 = .ok (.iload_n 3, 1) := by decide +kernel
theorem dX7_takesOwn_181 : decode cX7_takesOwn 181 = .ok (.if_icmp .ne 43, 3) := by decide +kernel
theorem dX7_takesOwn_184 : decode cX7_takesOwn 184 = .ok (.aload_n 0, 1) := by decide +kernel
theorem dX7_takesOwn_185 : decode cX7_takesOwn 185 = .ok (.getfield 13, 3) := by decide +kernel
theorem dX7_takesOwn_188 : decode cX7_takesOwn 188 = .ok (.iload 5, 2) := by decide +kernel
theorem dX7_takesOwn_190 : decode cX7_takesOwn 190 = .ok (.bipush 31, 2) := by decide +kernel
theorem dX7_takesOwn_192 : decode cX7_takesOwn 192 = .ok (.iadd, 1) := by decide +kernel
theorem dX7_takesOwn_193 : decode cX7_takesOwn 193 = .ok (.iaload, 1) := by decide +kernel
theorem dX7_takesOwn_194 : decode cX7_takesOwn 194 = .ok (.aload_n 0, 1) := by decide +kernel
theorem dX7_takesOwn_195 : decode cX7_takesOwn 195 = .ok (.getfield 31, 3) := by decide +kernel
theorem dX7_takesOwn_198 : decode cX7_takesOwn 198 = .ok (.iload_n 3, 1) := by decide +kernel
theorem dX7_takesOwn_199 : decode cX7_takesOwn 199 = .ok (.iaload, 1) := by decide +kernel
theorem dX7_takesOwn_200 : decode cX7_takesOwn 200 = .ok (.if_icmp .ne 24, 3) := by decide +kernel
theorem dX7_takesOwn_203 : decode cX7_takesOwn 203 = .ok (.aload_n 0, 1) := by decide +kernel
theorem dX7_takesOwn_204 : decode cX7_takesOwn 204 = .ok (.getfield 13, 3) := by decide +kernel
theorem dX7_takesOwn_207 : decode cX7_takesOwn 207 = .ok (.iload 5, 2) := by decide +kernel
theorem dX7_takesOwn_209 : decode cX7_takesOwn 209 = .ok (.bipush 32, 2) := by decide +kernel
theorem dX7_takesOwn_211 : decode cX7_takesOwn 211 = .ok (.iadd, 1) := by decide +kernel
theorem dX7_takesOwn_212 : decode cX7_takesOwn 212 = .ok (.iaload, 1) := by decide +kernel
theorem dX7_takesOwn_213 : decode cX7_takesOwn 213 = .ok (.iload 4, 2) := by decide +kernel
theorem dX7_takesOwn_215 : decode cX7_takesOwn 215 = .ok (.iconst 1, 1) := by decide +kernel
theorem dX7_takesOwn_216 : decode cX7_takesOwn 216 = .ok (.isub, 1) := by decide +kernel
theorem dX7_takesOwn_217 : decode cX7_takesOwn 217 = .ok (.if_icmp .ne 7, 3) := by decide +kernel
theorem dX7_takesOwn_220 : decode cX7_takesOwn 220 = .ok (.iconst 1, 1) := by decide +kernel
theorem dX7_takesOwn_221 : decode cX7_takesOwn 221 = .ok (.goto 4, 3) := by decide +kernel
theorem dX7_takesOwn_224 : decode cX7_takesOwn 224 = .ok (.iconst 0, 1) := by decide +kernel
theorem dX7_takesOwn_225 : decode cX7_takesOwn 225 = .ok (.istore 7, 2) := by decide +kernel
theorem dX7_takesOwn_227 : decode cX7_takesOwn 227 = .ok (.aload_n 0, 1) := by decide +kernel
theorem dX7_takesOwn_228 : decode cX7_takesOwn 228 = .ok (.getfield 13, 3) := by decide +kernel
theorem dX7_takesOwn_231 : decode cX7_takesOwn 231 = .ok (.iload 5, 2) := by decide +kernel
theorem dX7_takesOwn_233 : decode cX7_takesOwn 233 = .ok (.bipush 31, 2) := by decide +kernel
theorem dX7_takesOwn_235 : decode cX7_takesOwn 235 = .ok (.iadd, 1) := by decide +kernel
theorem dX7_takesOwn_236 : decode cX7_takesOwn 236 = .ok (.iload 7, 2) := by decide +kernel
theorem dX7_takesOwn_238 : decode cX7_takesOwn 238 = .ok (.ifCond .eq 14, 3) := by decide +kernel
theorem dX7_takesOwn_241 : decode cX7_takesOwn 241 = .ok (.aload_n 0, 1) := by decide +kernel
theorem dX7_takesOwn_242 : decode cX7_takesOwn 242 = .ok (.getfield 31, 3) := by decide +kernel
theorem dX7_takesOwn_245 : decode cX7_takesOwn 245 = .ok (.iload_n 3, 1) := by decide +kernel
theorem dX7_takesOwn_246 : decode cX7_takesOwn 246 = .ok (.iaload, 1) := by decide +kernel
theorem dX7_takesOwn_247 : decode cX7_takesOwn 247 = .ok (.iconst 1, 1) := by decide +kernel
theorem dX7_takesOwn_248 : decode cX7_takesOwn 248 = .ok (.iadd, 1) := by decide +kernel
theorem dX7_takesOwn_249 : decode cX7_takesOwn 249 = .ok (.goto 4, 3) := by decide +kernel
theorem dX7_takesOwn_252 : decode cX7_takesOwn 252 = .ok (.iconst 0, 1) := by decide +kernel
theorem dX7_takesOwn_253 : decode cX7_takesOwn 253 = .ok (.iastore, 1) := by decide +kernel
theorem dX7_takesOwn_254 : decode cX7_takesOwn 254 = .ok (.aload_n 0, 1) := by decide +kernel
theorem dX7_takesOwn_255 : decode cX7_takesOwn 255 = .ok (.getfield 13, 3) := by decide +kernel
theorem dX7_takesOwn_258 : decode cX7_takesOwn 258 = .ok (.iload 5, 2) := by decide +kernel
theorem dX7_takesOwn_260 : decode cX7_takesOwn 260 = .ok (.bipush 30, 2) := by decide +kernel
theorem dX7_takesOwn_262 : decode cX7_takesOwn 262 = .ok (.iadd, 1) := by decide +kernel
theorem dX7_takesOwn_263 : decode cX7_takesOwn 263 = .ok (.iload_n 3, 1) := by decide +kernel
theorem dX7_takesOwn_264 : decode cX7_takesOwn 264 = .ok (.iastore, 1) := by decide +kernel
theorem dX7_takesOwn_265 : decode cX7_takesOwn 265 = .ok (.aload_n 0, 1) := by decide +kernel
theorem dX7_takesOwn_266 : decode cX7_takesOwn 266 = .ok (.getfield 13, 3) := by decide +kernel
theorem dX7_takesOwn_269 : decode cX7_takesOwn 269 = .ok (.iload 5, 2) := by decide +kernel
theorem dX7_takesOwn_271 : decode cX7_takesOwn 271 = .ok (.bipush 32, 2) := by decide +kernel
theorem dX7_takesOwn_273 : decode cX7_takesOwn 273 = .ok (.iadd, 1) := by decide +kernel
theorem dX7_takesOwn_274 : decode cX7_takesOwn 274 = .ok (.iload 4, 2) := by decide +kernel
theorem dX7_takesOwn_276 : decode cX7_takesOwn 276 = .ok (.iastore, 1) := by decide +kernel
theorem dX7_takesOwn_277 : decode cX7_takesOwn 277 = .ok (.iload 7, 2) := by decide +kernel
theorem dX7_takesOwn_279 : decode cX7_takesOwn 279 = .ok (.ifCond .eq 47, 3) := by decide +kernel
theorem dX7_takesOwn_282 : decode cX7_takesOwn 282 = .ok (.aload_n 0, 1) := by decide +kernel
theorem dX7_takesOwn_283 : decode cX7_takesOwn 283 = .ok (.getfield 31, 3) := by decide +kernel
theorem dX7_takesOwn_286 : decode cX7_takesOwn 286 = .ok (.iload_n 3, 1) := by decide +kernel
theorem dX7_takesOwn_287 : decode cX7_takesOwn 287 = .ok (.iaload, 1) := by decide +kernel
theorem dX7_takesOwn_288 : decode cX7_takesOwn 288 = .ok (.iconst 1, 1) := by decide +kernel
theorem dX7_takesOwn_289 : decode cX7_takesOwn 289 = .ok (.iadd, 1) := by decide +kernel
theorem dX7_takesOwn_290 : decode cX7_takesOwn 290 = .ok (.aload_n 0, 1) := by decide +kernel
theorem dX7_takesOwn_291 : decode cX7_takesOwn 291 = .ok (.getfield 28, 3) := by decide +kernel
theorem dX7_takesOwn_294 : decode cX7_takesOwn 294 = .ok (.iload_n 3, 1) := by decide +kernel
theorem dX7_takesOwn_295 : decode cX7_takesOwn 295 = .ok (.iaload, 1) := by decide +kernel
theorem dX7_takesOwn_296 : decode cX7_takesOwn 296 = .ok (.if_icmp .ne 30, 3) := by decide +kernel
theorem dX7_takesOwn_299 : decode cX7_takesOwn 299 = .ok (.aload_n 0, 1) := by decide +kernel
theorem dX7_takesOwn_300 : decode cX7_takesOwn 300 = .ok (.getfield 13, 3) := by decide +kernel
theorem dX7_takesOwn_303 : decode cX7_takesOwn 303 = .ok (.iload 5, 2) := by decide +kernel
theorem dX7_takesOwn_305 : decode cX7_takesOwn 305 = .ok (.bipush 24, 2) := by decide +kernel
theorem dX7_takesOwn_307 : decode cX7_takesOwn 307 = .ok (.iadd, 1) := by decide +kernel
theorem dX7_takesOwn_308 : decode cX7_takesOwn 308 = .ok (.iload 4, 2) := by decide +kernel
theorem dX7_takesOwn_310 : decode cX7_takesOwn 310 = .ok (.iconst 1, 1) := by decide +kernel
theorem dX7_takesOwn_311 : decode cX7_takesOwn 311 = .ok (.iadd, 1) := by decide +kernel
theorem dX7_takesOwn_312 : decode cX7_takesOwn 312 = .ok (.iastore, 1) := by decide +kernel
theorem dX7_takesOwn_313 : decode cX7_takesOwn 313 = .ok (.aload_n 0, 1) := by decide +kernel
theorem dX7_takesOwn_314 : decode cX7_takesOwn 314 = .ok (.getfield 13, 3) := by decide +kernel
theorem dX7_takesOwn_317 : decode cX7_takesOwn 317 = .ok (.iload 5, 2) := by decide +kernel
theorem dX7_takesOwn_319 : decode cX7_takesOwn 319 = .ok (.bipush 24, 2) := by decide +kernel
theorem dX7_takesOwn_321 : decode cX7_takesOwn 321 = .ok (.iadd, 1) := by decide +kernel
theorem dX7_takesOwn_322 : decode cX7_takesOwn 322 = .ok (.iconst 1, 1) := by decide +kernel
theorem dX7_takesOwn_323 : decode cX7_takesOwn 323 = .ok (.iadd, 1) := by decide +kernel
theorem dX7_takesOwn_324 : decode cX7_takesOwn 324 = .ok (.iload_n 3, 1) := by decide +kernel
theorem dX7_takesOwn_325 : decode cX7_takesOwn 325 = .ok (.iastore, 1) := by decide +kernel
theorem dX7_takesOwn_326 : decode cX7_takesOwn 326 = .ok (.aload_n 0, 1) := by decide +kernel
theorem dX7_takesOwn_327 : decode cX7_takesOwn 327 = .ok (.getfield 22, 3) := by decide +kernel
theorem dX7_takesOwn_330 : decode cX7_takesOwn 330 = .ok (.iload_n 3, 1) := by decide +kernel
theorem dX7_takesOwn_331 : decode cX7_takesOwn 331 = .ok (.iaload, 1) := by decide +kernel
theorem dX7_takesOwn_332 : decode cX7_takesOwn 332 = .ok (.iconst 4, 1) := by decide +kernel
theorem dX7_takesOwn_333 : decode cX7_takesOwn 333 = .ok (.if_icmp .ne 30, 3) := by decide +kernel
theorem dX7_takesOwn_336 : decode cX7_takesOwn 336 = .ok (.iload 6, 2) := by decide +kernel
theorem dX7_takesOwn_338 : decode cX7_takesOwn 338 = .ok (.ifCond .eq 25, 3) := by decide +kernel
theorem dX7_takesOwn_341 : decode cX7_takesOwn 341 = .ok (.aload_n 0, 1) := by decide +kernel
theorem dX7_takesOwn_342 : decode cX7_takesOwn 342 = .ok (.getfield 13, 3) := by decide +kernel
theorem dX7_takesOwn_345 : decode cX7_takesOwn 345 = .ok (.iload 5, 2) := by decide +kernel
theorem dX7_takesOwn_347 : decode cX7_takesOwn 347 = .ok (.bipush 26, 2) := by decide +kernel
theorem dX7_takesOwn_349 : decode cX7_takesOwn 349 = .ok (.iadd, 1) := by decide +kernel
theorem dX7_takesOwn_350 : decode cX7_takesOwn 350 = .ok (.iaload, 1) := by decide +kernel
theorem dX7_takesOwn_351 : decode cX7_takesOwn 351 = .ok (.iconst 2, 1) := by decide +kernel
theorem dX7_takesOwn_352 : decode cX7_takesOwn 352 = .ok (.if_icmp .ne 11, 3) := by decide +kernel
theorem dX7_takesOwn_355 : decode cX7_takesOwn 355 = .ok (.aload_n 0, 1) := by decide +kernel
theorem dX7_takesOwn_356 : decode cX7_takesOwn 356 = .ok (.iload_n 1, 1) := by decide +kernel
theorem dX7_takesOwn_357 : decode cX7_takesOwn 357 = .ok (.iload_n 2, 1) := by decide +kernel
theorem dX7_takesOwn_358 : decode cX7_takesOwn 358 = .ok (.invokevirtual 150, 3) := by decide +kernel
theorem dX7_takesOwn_361 : decode cX7_takesOwn 361 = .ok (.iconst 1, 1) := by decide +kernel
theorem dX7_takesOwn_362 : decode cX7_takesOwn 362 = .ok (.ireturn, 1) := by decide +kernel
theorem dX7_takesOwn_363 : decode cX7_takesOwn 363 = .ok (.iconst 0, 1) := by decide +kernel
theorem dX7_takesOwn_364 : decode cX7_takesOwn 364 = .ok (.ireturn, 1) := by decide +kernel
theorem dX7_overhears_0 : decode cX7_overhears 0 = .ok (.iload_n 1, 1) := by decide +kernel
theorem dX7_overhears_1 : decode cX7_overhears 1 = .ok (.iload_n 2, 1) := by decide +kernel
theorem dX7_overhears_2 : decode cX7_overhears 2 = .ok (.invokestatic 52, 3) := by decide +kernel
theorem dX7_overhears_5 : decode cX7_overhears 5 = .ok (.istore 5, 2) := by decide +kernel
theorem dX7_overhears_7 : decode cX7_overhears 7 = .ok (.iload 4, 2) := by decide +kernel
theorem dX7_overhears_9 : decode cX7_overhears 9 = .ok (.aload_n 0, 1) := by decide +kernel
theorem dX7_overhears_10 : decode cX7_overhears 10 = .ok (.getfield 22, 3) := by decide +kernel
theorem dX7_overhears_13 : decode cX7_overhears 13 = .ok (.iload_n 3, 1) := by decide +kernel
theorem dX7_overhears_14 : decode cX7_overhears 14 = .ok (.iaload, 1) := by decide +kernel
theorem dX7_overhears_15 : decode cX7_overhears 15 = .ok (.iconst 1, 1) := by decide +kernel
theorem dX7_overhears_16 : decode cX7_overhears 16 = .ok (.if_icmp .ne 14, 3) := by decide +kernel
theorem dX7_overhears_19 : decode cX7_overhears 19 = .ok (.aload_n 0, 1) := by decide +kernel
theorem dX7_overhears_20 : decode cX7_overhears 20 = .ok (.getfield 28, 3) := by decide +kernel
theorem dX7_overhears_23 : decode cX7_overhears 23 = .ok (.iload_n 3, 1) := by decide +kernel
theorem dX7_overhears_24 : decode cX7_overhears 24 = .ok (.iaload, 1) := by decide +kernel
theorem dX7_overhears_25 : decode cX7_overhears 25 = .ok (.iconst 2, 1) := by decide +kernel
theorem dX7_overhears_26 : decode cX7_overhears 26 = .ok (.iadd, 1) := by decide +kernel
theorem dX7_overhears_27 : decode cX7_overhears 27 = .ok (.goto 51, 3) := by decide +kernel
theorem dX7_overhears_30 : decode cX7_overhears 30 = .ok (.aload_n 0, 1) := by decide +kernel
theorem dX7_overhears_31 : decode cX7_overhears 31 = .ok (.getfield 22, 3) := by decide +kernel
theorem dX7_overhears_34 : decode cX7_overhears 34 = .ok (.iload_n 3, 1) := by decide +kernel
theorem dX7_overhears_35 : decode cX7_overhears 35 = .ok (.iaload, 1) := by decide +kernel
theorem dX7_overhears_36 : decode cX7_overhears 36 = .ok (.iconst 2, 1) := by decide +kernel
theorem dX7_overhears_37 : decode cX7_overhears 37 = .ok (.if_icmp .ne 14, 3) := by decide +kernel
theorem dX7_overhears_40 : decode cX7_overhears 40 = .ok (.aload_n 0, 1) := by decide +kernel
theorem dX7_overhears_41 : decode cX7_overhears 41 = .ok (.getfield 28, 3) := by decide +kernel
theorem dX7_overhears_44 : decode cX7_overhears 44 = .ok (.iload_n 3, 1) := by decide +kernel
theorem dX7_overhears_45 : decode cX7_overhears 45 = .ok (.iaload, 1) := by decide +kernel
theorem dX7_overhears_46 : decode cX7_overhears 46 = .ok (.iconst 1, 1) := by decide +kernel
theorem dX7_overhears_47 : decode cX7_overhears 47 = .ok (.iadd, 1) := by decide +kernel
theorem dX7_overhears_48 : decode cX7_overhears 48 = .ok (.goto 30, 3) := by decide +kernel
theorem dX7_overhears_51 : decode cX7_overhears 51 = .ok (.aload_n 0, 1) := by decide +kernel
theorem dX7_overhears_52 : decode cX7_overhears 52 = .ok (.getfield 22, 3) := by decide +kernel
theorem dX7_overhears_55 : decode cX7_overhears 55 = .ok (.iload_n 3, 1) := by decide +kernel
theorem dX7_overhears_56 : decode cX7_overhears 56 = .ok (.iaload, 1) := by decide +kernel
theorem dX7_overhears_57 : decode cX7_overhears 57 = .ok (.iconst 3, 1) := by decide +kernel
theorem dX7_overhears_58 : decode cX7_overhears 58 = .ok (.if_icmp .ne 19, 3) := by decide +kernel
theorem dX7_overhears_61 : decode cX7_overhears 61 = .ok (.aload_n 0, 1) := by decide +kernel
theorem dX7_overhears_62 : decode cX7_overhears 62 = .ok (.getfield 28, 3) := by decide +kernel
theorem dX7_overhears_65 : decode cX7_overhears 65 = .ok (.iload_n 3, 1) := by decide +kernel
theorem dX7_overhears_66 : decode cX7_overhears 66 = .ok (.iaload, 1) := by decide +kernel
theorem dX7_overhears_67 : decode cX7_overhears 67 = .ok (.aload_n 0, 1) := by decide +kernel
theorem dX7_overhears_68 : decode cX7_overhears 68 = .ok (.getfield 31, 3) := by decide +kernel
theorem dX7_overhears_71 : decode cX7_overhears 71 = .ok (.iload_n 3, 1) := by decide +kernel
theorem dX7_overhears_72 : decode cX7_overhears 72 = .ok (.iaload, 1) := by decide +kernel
theorem dX7_overhears_73 : decode cX7_overhears 73 = .ok (.isub, 1) := by decide +kernel
theorem dX7_overhears_74 : decode cX7_overhears 74 = .ok (.goto 4, 3) := by decide +kernel
theorem dX7_overhears_77 : decode cX7_overhears 77 = .ok (.iconst 0, 1) := by decide +kernel
theorem dX7_overhears_78 : decode cX7_overhears 78 = .ok (.iadd, 1) := by decide +kernel
theorem dX7_overhears_79 : decode cX7_overhears 79 = .ok (.istore 6, 2) := by decide +kernel
theorem dX7_overhears_81 : decode cX7_overhears 81 = .ok (.aload_n 0, 1) := by decide +kernel
theorem dX7_overhears_82 : decode cX7_overhears 82 = .ok (.getfield 13, 3) := by decide +kernel
theorem dX7_overhears_85 : decode cX7_overhears 85 = .ok (.iload 5, 2) := by decide +kernel
theorem dX7_overhears_87 : decode cX7_overhears 87 = .ok (.iconst 3, 1) := by decide +kernel
theorem dX7_overhears_88 : decode cX7_overhears 88 = .ok (.iadd, 1) := by decide +kernel
theorem dX7_overhears_89 : decode cX7_overhears 89 = .ok (.iload 6, 2) := by decide +kernel
theorem dX7_overhears_91 : decode cX7_overhears 91 = .ok (.aload_n 0, 1) := by decide +kernel
theorem dX7_overhears_92 : decode cX7_overhears 92 = .ok (.getfield 13, 3) := by decide +kernel
theorem dX7_overhears_95 : decode cX7_overhears 95 = .ok (.iload 5, 2) := by decide +kernel
theorem dX7_overhears_97 : decode cX7_overhears 97 = .ok (.iconst 3, 1) := by decide +kernel
theorem dX7_overhears_98 : decode cX7_overhears 98 = .ok (.iadd, 1) := by decide +kernel
theorem dX7_overhears_99 : decode cX7_overhears 99 = .ok (.iaload, 1) := by decide +kernel
theorem dX7_overhears_100 : decode cX7_overhears 100 = .ok (.if_icmp .le 8, 3) := by decide +kernel
theorem dX7_overhears_103 : decode cX7_overhears 103 = .ok (.iload 6, 2) := by decide +kernel
theorem dX7_overhears_105 : decode cX7_overhears 105 = .ok (.goto 12, 3) := by decide +kernel
theorem dX7_overhears_108 : decode cX7_overhears 108 = .ok (.aload_n 0, 1) := by decide +kernel
theorem dX7_overhears_109 : decode cX7_overhears 109 = .ok (.getfield 13, 3) := by decide +kernel
theorem dX7_overhears_112 : decode cX7_overhears 112 = .ok (.iload 5, 2) := by decide +kernel
theorem dX7_overhears_114 : decode cX7_overhears 114 = .ok (.iconst 3, 1) := by decide +kernel
theorem dX7_overhears_115 : decode cX7_overhears 115 = .ok (.iadd, 1) := by decide +kernel
theorem dX7_overhears_116 : decode cX7_overhears 116 = .ok (.iaload, 1) := by decide +kernel
theorem dX7_overhears_117 : decode cX7_overhears 117 = .ok (.iastore, 1) := by decide +kernel
theorem dX7_overhears_118 : decode cX7_overhears 118 = .ok (.aload_n 0, 1) := by decide +kernel
theorem dX7_overhears_119 : decode cX7_overhears 119 = .ok (.getfield 13, 3) := by decide +kernel
theorem dX7_overhears_122 : decode cX7_overhears 122 = .ok (.iload 5, 2) := by decide +kernel
theorem dX7_overhears_124 : decode cX7_overhears 124 = .ok (.bipush 33, 2) := by decide +kernel
theorem dX7_overhears_126 : decode cX7_overhears 126 = .ok (.iadd, 1) := by decide +kernel
theorem dX7_overhears_127 : decode cX7_overhears 127 = .ok (.iaload, 1) := by decide +kernel
theorem dX7_overhears_128 : decode cX7_overhears 128 = .ok (.bipush 6, 2) := by decide +kernel
theorem dX7_overhears_130 : decode cX7_overhears 130 = .ok (.if_icmp .ne 61, 3) := by decide +kernel
theorem dX7_overhears_133 : decode cX7_overhears 133 = .ok (.iconst 1, 1) := by decide +kernel
theorem dX7_overhears_134 : decode cX7_overhears 134 = .ok (.istore 7, 2) := by decide +kernel
theorem dX7_overhears_136 : decode cX7_overhears 136 = .ok (.iload 7, 2) := by decide +kernel
theorem dX7_overhears_138 : decode cX7_overhears 138 = .ok (.bipush 21, 2) := by decide +kernel
theorem dX7_overhears_140 : decode cX7_overhears 140 = .ok (.if_icmp .ge 37, 3) := by decide +kernel
theorem dX7_overhears_143 : decode cX7_overhears 143 = .ok (.aload_n 0, 1) := by decide +kernel
theorem dX7_overhears_144 : decode cX7_overhears 144 = .ok (.getfield 13, 3) := by decide +kernel
theorem dX7_overhears_147 : decode cX7_overhears 147 = .ok (.iload 5, 2) := by decide +kernel
theorem dX7_overhears_149 : decode cX7_overhears 149 = .ok (.bipush 33, 2) := by decide +kernel
theorem dX7_overhears_151 : decode cX7_overhears 151 = .ok (.iadd, 1) := by decide +kernel
theorem dX7_overhears_152 : decode cX7_overhears 152 = .ok (.iload 7, 2) := by decide +kernel
theorem dX7_overhears_154 : decode cX7_overhears 154 = .ok (.iadd, 1) := by decide +kernel
theorem dX7_overhears_155 : decode cX7_overhears 155 = .ok (.aload_n 0, 1) := by decide +kernel
theorem dX7_overhears_156 : decode cX7_overhears 156 = .ok (.getfield 13, 3) := by decide +kernel
theorem dX7_overhears_159 : decode cX7_overhears 159 = .ok (.iload 5, 2) := by decide +kernel
theorem dX7_overhears_161 : decode cX7_overhears 161 = .ok (.bipush 33, 2) := by decide +kernel
theorem dX7_overhears_163 : decode cX7_overhears 163 = .ok (.iadd, 1) := by decide +kernel
theorem dX7_overhears_164 : decode cX7_overhears 164 = .ok (.iload 7, 2) := by decide +kernel
theorem dX7_overhears_166 : decode cX7_overhears 166 = .ok (.iadd, 1) := by decide +kernel
theorem dX7_overhears_167 : decode cX7_overhears 167 = .ok (.iconst 4, 1) := by decide +kernel
theorem dX7_overhears_168 : decode cX7_overhears 168 = .ok (.iadd, 1) := by decide +kernel
theorem dX7_overhears_169 : decode cX7_overhears 169 = .ok (.iaload, 1) := by decide +kernel
theorem dX7_overhears_170 : decode cX7_overhears 170 = .ok (.iastore, 1) := by decide +kernel
theorem dX7_overhears_171 : decode cX7_overhears 171 = .ok (.iinc 7 1, 3) := by decide +kernel
theorem dX7_overhears_174 : decode cX7_overhears 174 = .ok (.goto (-38), 3) := by decide +kernel
theorem dX7_overhears_177 : decode cX7_overhears 177 = .ok (.aload_n 0, 1) := by decide +kernel
theorem dX7_overhears_178 : decode cX7_overhears 178 = .ok (.getfield 13, 3) := by decide +kernel
theorem dX7_overhears_181 : decode cX7_overhears 181 = .ok (.iload 5, 2) := by decide +kernel
theorem dX7_overhears_183 : decode cX7_overhears 183 = .ok (.bipush 33, 2) := by decide +kernel
theorem dX7_overhears_185 : decode cX7_overhears 185 = .ok (.iadd, 1) := by decide +kernel
theorem dX7_overhears_186 : decode cX7_overhears 186 = .ok (.dup2, 1) := by decide +kernel
theorem dX7_overhears_187 : decode cX7_overhears 187 = .ok (.iaload, 1) := by decide +kernel
theorem dX7_overhears_188 : decode cX7_overhears 188 = .ok (.iconst 1, 1) := by decide +kernel
theorem dX7_overhears_189 : decode cX7_overhears 189 = .ok (.isub, 1) := by decide +kernel
theorem dX7_overhears_190 : decode cX7_overhears 190 = .ok (.iastore, 1) := by decide +kernel
theorem dX7_overhears_191 : decode cX7_overhears 191 = .ok (.iload 5, 2) := by decide +kernel
theorem dX7_overhears_193 : decode cX7_overhears 193 = .ok (.bipush 33, 2) := by decide +kernel
theorem dX7_overhears_195 : decode cX7_overhears 195 = .ok (.iadd, 1) := by decide +kernel
theorem dX7_overhears_196 : decode cX7_overhears 196 = .ok (.iconst 1, 1) := by decide +kernel
theorem dX7_overhears_197 : decode cX7_overhears 197 = .ok (.iadd, 1) := by decide +kernel
theorem dX7_overhears_198 : decode cX7_overhears 198 = .ok (.iconst 4, 1) := by decide +kernel
theorem dX7_overhears_199 : decode cX7_overhears 199 = .ok (.aload_n 0, 1) := by decide +kernel
theorem dX7_overhears_200 : decode cX7_overhears 200 = .ok (.getfield 13, 3) := by decide +kernel
theorem dX7_overhears_203 : decode cX7_overhears 203 = .ok (.iload 5, 2) := by decide +kernel
theorem dX7_overhears_205 : decode cX7_overhears 205 = .ok (.bipush 33, 2) := by decide +kernel
theorem dX7_overhears_207 : decode cX7_overhears 207 = .ok (.iadd, 1) := by decide +kernel
theorem dX7_overhears_208 : decode cX7_overhears 208 = .ok (.iaload, 1) := by decide +kernel
theorem dX7_overhears_209 : decode cX7_overhears 209 = .ok (.imul, 1) := by decide +kernel
theorem dX7_overhears_210 : decode cX7_overhears 210 = .ok (.iadd, 1) := by decide +kernel
theorem dX7_overhears_211 : decode cX7_overhears 211 = .ok (.istore 7, 2) := by decide +kernel
theorem dX7_overhears_213 : decode cX7_overhears 213 = .ok (.aload_n 0, 1) := by decide +kernel
theorem dX7_overhears_214 : decode cX7_overhears 214 = .ok (.getfield 13, 3) := by decide +kernel
theorem dX7_overhears_217 : decode cX7_overhears 217 = .ok (.iload 7, 2) := by decide +kernel
theorem dX7_overhears_219 : decode cX7_overhears 219 = .ok (.iload 4, 2) := by decide +kernel
theorem dX7_overhears_221 : decode cX7_overhears 221 = .ok (.iastore, 1) := by decide +kernel
theorem dX7_overhears_222 : decode cX7_overhears 222 = .ok (.aload_n 0, 1) := by decide +kernel
theorem dX7_overhears_223 : decode cX7_overhears 223 = .ok (.getfield 13, 3) := by decide +kernel
theorem dX7_overhears_226 : decode cX7_overhears 226 = .ok (.iload 7, 2) := by decide +kernel
theorem dX7_overhears_228 : decode cX7_overhears 228 = .ok (.iconst 1, 1) := by decide +kernel
theorem dX7_overhears_229 : decode cX7_overhears 229 = .ok (.iadd, 1) := by decide +kernel
theorem dX7_overhears_230 : decode cX7_overhears 230 = .ok (.iload_n 3, 1) := by decide +kernel
theorem dX7_overhears_231 : decode cX7_overhears 231 = .ok (.iastore, 1) := by decide +kernel
theorem dX7_overhears_232 : decode cX7_overhears 232 = .ok (.aload_n 0, 1) := by decide +kernel
theorem dX7_overhears_233 : decode cX7_overhears 233 = .ok (.getfield 13, 3) := by decide +kernel
theorem dX7_overhears_236 : decode cX7_overhears 236 = .ok (.iload 7, 2) := by decide +kernel
theorem dX7_overhears_238 : decode cX7_overhears 238 = .ok (.iconst 2, 1) := by decide +kernel
theorem dX7_overhears_239 : decode cX7_overhears 239 = .ok (.iadd, 1) := by decide +kernel
theorem dX7_overhears_240 : decode cX7_overhears 240 = .ok (.aload_n 0, 1) := by decide +kernel
theorem dX7_overhears_241 : decode cX7_overhears 241 = .ok (.getfield 25, 3) := by decide +kernel
theorem dX7_overhears_244 : decode cX7_overhears 244 = .ok (.iload_n 3, 1) := by decide +kernel
theorem dX7_overhears_245 : decode cX7_overhears 245 = .ok (.iaload, 1) := by decide +kernel
theorem dX7_overhears_246 : decode cX7_overhears 246 = .ok (.iastore, 1) := by decide +kernel
theorem dX7_overhears_247 : decode cX7_overhears 247 = .ok (.aload_n 0, 1) := by decide +kernel
theorem dX7_overhears_248 : decode cX7_overhears 248 = .ok (.getfield 13, 3) := by decide +kernel
theorem dX7_overhears_251 : decode cX7_overhears 251 = .ok (.iload 7, 2) := by decide +kernel
theorem dX7_overhears_253 : decode cX7_overhears 253 = .ok (.iconst 3, 1) := by decide +kernel
theorem dX7_overhears_254 : decode cX7_overhears 254 = .ok (.iadd, 1) := by decide +kernel
theorem dX7_overhears_255 : decode cX7_overhears 255 = .ok (.aload_n 0, 1) := by decide +kernel
theorem dX7_overhears_256 : decode cX7_overhears 256 = .ok (.getfield 22, 3) := by decide +kernel
theorem dX7_overhears_259 : decode cX7_overhears 259 = .ok (.iload_n 3, 1) := by decide +kernel
theorem dX7_overhears_260 : decode cX7_overhears 260 = .ok (.iaload, 1) := by decide +kernel
theorem dX7_overhears_261 : decode cX7_overhears 261 = .ok (.iastore, 1) := by decide +kernel
theorem dX7_overhears_262 : decode cX7_overhears 262 = .ok (.aload_n 0, 1) := by decide +kernel
theorem dX7_overhears_263 : decode cX7_overhears 263 = .ok (.getfield 13, 3) := by decide +kernel
theorem dX7_overhears_266 : decode cX7_overhears 266 = .ok (.iload 5, 2) := by decide +kernel
theorem dX7_overhears_268 : decode cX7_overhears 268 = .ok (.bipush 33, 2) := by decide +kernel
theorem dX7_overhears_270 : decode cX7_overhears 270 = .ok (.iadd, 1) := by decide +kernel
theorem dX7_overhears_271 : decode cX7_overhears 271 = .ok (.dup2, 1) := by decide +kernel
theorem dX7_overhears_272 : decode cX7_overhears 272 = .ok (.iaload, 1) := by decide +kernel
theorem dX7_overhears_273 : decode cX7_overhears 273 = .ok (.iconst 1, 1) := by decide +kernel
theorem dX7_overhears_274 : decode cX7_overhears 274 = .ok (.iadd, 1) := by decide +kernel
theorem dX7_overhears_275 : decode cX7_overhears 275 = .ok (.iastore, 1) := by decide +kernel
theorem dX7_overhears_276 : decode cX7_overhears 276 = .ok (.return_, 1) := by decide +kernel
theorem dX7_gets_0 : decode cX7_gets 0 = .ok (.iload_n 1, 1) := by decide +kernel
theorem dX7_gets_1 : decode cX7_gets 1 = .ok (.iload_n 2, 1) := by decide +kernel
theorem dX7_gets_2 : decode cX7_gets 2 = .ok (.invokestatic 52, 3) := by decide +kernel
theorem dX7_gets_5 : decode cX7_gets 5 = .ok (.istore 5, 2) := by decide +kernel
theorem dX7_gets_7 : decode cX7_gets 7 = .ok (.aload_n 0, 1) := by decide +kernel
theorem dX7_gets_8 : decode cX7_gets 8 = .ok (.getfield 13, 3) := by decide +kernel
theorem dX7_gets_11 : decode cX7_gets 11 = .ok (.iload 5, 2) := by decide +kernel
theorem dX7_gets_13 : decode cX7_gets 13 = .ok (.bipush 26, 2) := by decide +kernel
theorem dX7_gets_15 : decode cX7_gets 15 = .ok (.iadd, 1) := by decide +kernel
theorem dX7_gets_16 : decode cX7_gets 16 = .ok (.iaload, 1) := by decide +kernel
theorem dX7_gets_17 : decode cX7_gets 17 = .ok (.ifCond .le 21, 3) := by decide +kernel
theorem dX7_gets_20 : decode cX7_gets 20 = .ok (.aload_n 0, 1) := by decide +kernel
theorem dX7_gets_21 : decode cX7_gets 21 = .ok (.getfield 13, 3) := by decide +kernel
theorem dX7_gets_24 : decode cX7_gets 24 = .ok (.iload 5, 2) := by decide +kernel
theorem dX7_gets_26 : decode cX7_gets 26 = .ok (.bipush 27, 2) := by decide +kernel
theorem dX7_gets_28 : decode cX7_gets 28 = .ok (.iadd, 1) := by decide +kernel
theorem dX7_gets_29 : decode cX7_gets 29 = .ok (.iaload, 1) := by decide +kernel
theorem dX7_gets_30 : decode cX7_gets 30 = .ok (.iload_n 3, 1) := by decide +kernel
theorem dX7_gets_31 : decode cX7_gets 31 = .ok (.if_icmp .ne 7, 3) := by decide +kernel
theorem dX7_gets_34 : decode cX7_gets 34 = .ok (.iconst 1, 1) := by decide +kernel
theorem dX7_gets_35 : decode cX7_gets 35 = .ok (.goto 4, 3) := by decide +kernel
theorem dX7_gets_38 : decode cX7_gets 38 = .ok (.iconst 0, 1) := by decide +kernel
theorem dX7_gets_39 : decode cX7_gets 39 = .ok (.istore 6, 2) := by decide +kernel
theorem dX7_gets_41 : decode cX7_gets 41 = .ok (.aload_n 0, 1) := by decide +kernel
theorem dX7_gets_42 : decode cX7_gets 42 = .ok (.getfield 13, 3) := by decide +kernel
theorem dX7_gets_45 : decode cX7_gets 45 = .ok (.sipush 440, 3) := by decide +kernel
theorem dX7_gets_48 : decode cX7_gets 48 = .ok (.iload_n 1, 1) := by decide +kernel
theorem dX7_gets_49 : decode cX7_gets 49 = .ok (.imul, 1) := by decide +kernel
theorem dX7_gets_50 : decode cX7_gets 50 = .ok (.sipush 420, 3) := by decide +kernel
theorem dX7_gets_53 : decode cX7_gets 53 = .ok (.iadd, 1) := by decide +kernel
theorem dX7_gets_54 : decode cX7_gets 54 = .ok (.iload_n 2, 1) := by decide +kernel
theorem dX7_gets_55 : decode cX7_gets 55 = .ok (.iadd, 1) := by decide +kernel
theorem dX7_gets_56 : decode cX7_gets 56 = .ok (.iaload, 1) := by decide +kernel
theorem dX7_gets_57 : decode cX7_gets 57 = .ok (.iload 4, 2) := by decide +kernel
theorem dX7_gets_59 : decode cX7_gets 59 = .ok (.iand, 1) := by decide +kernel
theorem dX7_gets_60 : decode cX7_gets 60 = .ok (.istore 7, 2) := by decide +kernel
theorem dX7_gets_62 : decode cX7_gets 62 = .ok (.iconst 0, 1) := by decide +kernel
theorem dX7_gets_63 : decode cX7_gets 63 = .ok (.istore 8, 2) := by decide +kernel
theorem dX7_gets_65 : decode cX7_gets 65 = .ok (.iload 4, 2) := by decide +kernel
theorem dX7_gets_67 : decode cX7_gets 67 = .ok (.iload_n 2, 1) := by decide +kernel
theorem dX7_gets_68 : decode cX7_gets 68 = .ok (.invokestatic 105, 3) := by decide +kernel
theorem dX7_gets_71 : decode cX7_gets 71 = .ok (.ifCond .ne 28, 3) := by decide +kernel
theorem dX7_gets_74 : decode cX7_gets 74 = .ok (.iload 7, 2) := by decide +kernel
theorem dX7_gets_76 : decode cX7_gets 76 = .ok (.invokestatic 153, 3) := by decide +kernel
theorem dX7_gets_79 : decode cX7_gets 79 = .ok (.iconst 1, 1) := by decide +kernel
theorem dX7_gets_80 : decode cX7_gets 80 = .ok (.if_icmp .le 19, 3) := by decide +kernel
theorem dX7_gets_83 : decode cX7_gets 83 = .ok (.aload_n 0, 1) := by decide +kernel
theorem dX7_gets_84 : decode cX7_gets 84 = .ok (.getfield 13, 3) := by decide +kernel
theorem dX7_gets_87 : decode cX7_gets 87 = .ok (.iload 5, 2) := by decide +kernel
theorem dX7_gets_89 : decode cX7_gets 89 = .ok (.iconst 4, 1) := by decide +kernel
theorem dX7_gets_90 : decode cX7_gets 90 = .ok (.iadd, 1) := by decide +kernel
theorem dX7_gets_91 : decode cX7_gets 91 = .ok (.dup2, 1) := by decide +kernel
theorem dX7_gets_92 : decode cX7_gets 92 = .ok (.iaload, 1) := by decide +kernel
theorem dX7_gets_93 : decode cX7_gets 93 = .ok (.iconst 1, 1) := by decide +kernel
theorem dX7_gets_94 : decode cX7_gets 94 = .ok (.iadd, 1) := by decide +kernel
theorem dX7_gets_95 : decode cX7_gets 95 = .ok (.iastore, 1) := by decide +kernel
theorem dX7_gets_96 : decode cX7_gets 96 = .ok (.goto 70, 3) := by decide +kernel
theorem dX7_gets_99 : decode cX7_gets 99 = .ok (.iload 4, 2) := by decide +kernel
theorem dX7_gets_101 : decode cX7_gets 101 = .ok (.iload_n 2, 1) := by decide +kernel
theorem dX7_gets_102 : decode cX7_gets 102 = .ok (.invokestatic 105, 3) := by decide +kernel
theorem dX7_gets_105 : decode cX7_gets 105 = .ok (.ifCond .ne 61, 3) := by decide +kernel
theorem dX7_gets_108 : decode cX7_gets 108 = .ok (.iload 7, 2) := by decide +kernel
theorem dX7_gets_110 : decode cX7_gets 110 = .ok (.ifCond .le 56, 3) := by decide +kernel
theorem dX7_gets_113 : decode cX7_gets 113 = .ok (.iconst 0, 1) := by decide +kernel
theorem dX7_gets_114 : decode cX7_gets 114 = .ok (.istore 9, 2) := by decide +kernel
theorem dX7_gets_116 : decode cX7_gets 116 = .ok (.iload 7, 2) := by decide +kernel
theorem dX7_gets_118 : decode cX7_gets 118 = .ok (.iload 9, 2) := by decide +kernel
theorem dX7_gets_120 : decode cX7_gets 120 = .ok (.invokestatic 105, 3) := by decide +kernel
theorem dX7_gets_123 : decode cX7_gets 123 = .ok (.ifCond .ne 9, 3) := by decide +kernel
theorem dX7_gets_126 : decode cX7_gets 126 = .ok (.iinc 9 1, 3) := by decide +kernel
theorem dX7_gets_129 : decode cX7_gets 129 = .ok (.goto (-13), 3) := by decide +kernel
theorem dX7_gets_132 : decode cX7_gets 132 = .ok (.aload_n 0, 1) := by decide +kernel
theorem dX7_gets_133 : decode cX7_gets 133 = .ok (.getfield 25, 3) := by decide +kernel
theorem dX7_gets_136 : decode cX7_gets 136 = .ok (.iload 9, 2) := by decide +kernel
theorem dX7_gets_138 : decode cX7_gets 138 = .ok (.iaload, 1) := by decide +kernel
theorem dX7_gets_139 : decode cX7_gets 139 = .ok (.iload_n 2, 1) := by decide +kernel
theorem dX7_gets_140 : decode cX7_gets 140 = .ok (.if_icmp .ne 17, 3) := by decide +kernel
theorem dX7_gets_143 : decode cX7_gets 143 = .ok (.aload_n 0, 1) := by decide +kernel
theorem dX7_gets_144 : decode cX7_gets 144 = .ok (.iload_n 1, 1) := by decide +kernel
theorem dX7_gets_145 : decode cX7_gets 145 = .ok (.iload_n 2, 1) := by decide +kernel
theorem dX7_gets_146 : decode cX7_gets 146 = .ok (.iload 9, 2) := by decide +kernel
theorem dX7_gets_148 : decode cX7_gets 148 = .ok (.iload_n 3, 1) := by decide +kernel
theorem dX7_gets_149 : decode cX7_gets 149 = .ok (.invokevirtual 156, 3) := by decide +kernel
theorem dX7_gets_152 : decode cX7_gets 152 = .ok (.istore 8, 2) := by decide +kernel
theorem dX7_gets_154 : decode cX7_gets 154 = .ok (.goto 12, 3) := by decide +kernel
theorem dX7_gets_157 : decode cX7_gets 157 = .ok (.aload_n 0, 1) := by decide +kernel
theorem dX7_gets_158 : decode cX7_gets 158 = .ok (.iload_n 1, 1) := by decide +kernel
theorem dX7_gets_159 : decode cX7_gets 159 = .ok (.iload_n 2, 1) := by decide +kernel
theorem dX7_gets_160 : decode cX7_gets 160 = .ok (.iload 9, 2) := by decide +kernel
theorem dX7_gets_162 : decode cX7_gets 162 = .ok (.iload_n 3, 1) := by decide +kernel
theorem dX7_gets_163 : decode cX7_gets 163 = .ok (.invokevirtual 160, 3) := by decide +kernel
theorem dX7_gets_166 : decode cX7_gets 166 = .ok (.iload 6, 2) := by decide +kernel
theorem dX7_gets_168 : decode cX7_gets 168 = .ok (.ifCond .eq 14, 3) := by decide +kernel
theorem dX7_gets_171 : decode cX7_gets 171 = .ok (.iload 8, 2) := by decide +kernel
theorem dX7_gets_173 : decode cX7_gets 173 = .ok (.ifCond .ne 9, 3) := by decide +kernel
theorem dX7_gets_176 : decode cX7_gets 176 = .ok (.aload_n 0, 1) := by decide +kernel
theorem dX7_gets_177 : decode cX7_gets 177 = .ok (.iload_n 1, 1) := by decide +kernel
theorem dX7_gets_178 : decode cX7_gets 178 = .ok (.iload_n 2, 1) := by decide +kernel
theorem dX7_gets_179 : decode cX7_gets 179 = .ok (.invokevirtual 163, 3) := by decide +kernel
theorem dX7_gets_182 : decode cX7_gets 182 = .ok (.return_, 1) := by decide +kernel
theorem dX7_goes_0 : decode cX7_goes 0 = .ok (.aload_n 0, 1) := by decide +kernel
theorem dX7_goes_1 : decode cX7_goes 1 = .ok (.getfield 13, 3) := by decide +kernel
theorem dX7_goes_4 : decode cX7_goes 4 = .ok (.sipush 440, 3) := by decide +kernel
theorem dX7_goes_7 : decode cX7_goes 7 = .ok (.iload_n 1, 1) := by decide +kernel
theorem dX7_goes_8 : decode cX7_goes 8 = .ok (.imul, 1) := by decide +kernel
theorem dX7_goes_9 : decode cX7_goes 9 = .ok (.sipush 426, 3) := by decide +kernel
theorem dX7_goes_12 : decode cX7_goes 12 = .ok (.iadd, 1) := by decide +kernel
theorem dX7_goes_13 : decode cX7_goes 13 = .ok (.iaload, 1) := by decide +kernel
theorem dX7_goes_14 : decode cX7_goes 14 = .ok (.iconst 1, 1) := by decide +kernel
theorem dX7_goes_15 : decode cX7_goes 15 = .ok (.iadd, 1) := by decide +kernel
theorem dX7_goes_16 : decode cX7_goes 16 = .ok (.istore_n 2, 1) := by decide +kernel
theorem dX7_goes_17 : decode cX7_goes 17 = .ok (.iconst 0, 1) := by decide +kernel
theorem dX7_goes_18 : decode cX7_goes 18 = .ok (.istore_n 3, 1) := by decide +kernel
theorem dX7_goes_19 : decode cX7_goes 19 = .ok (.iconst 0, 1) := by decide +kernel
theorem dX7_goes_20 : decode cX7_goes 20 = .ok (.istore 4, 2) := by decide +kernel
theorem dX7_goes_22 : decode cX7_goes 22 = .ok (.iload 4, 2) := by decide +kernel
theorem dX7_goes_24 : decode cX7_goes 24 = .ok (.aload_n 0, 1) := by decide +kernel
theorem dX7_goes_25 : decode cX7_goes 25 = .ok (.getfield 56, 3) := by decide +kernel
theorem dX7_goes_28 : decode cX7_goes 28 = .ok (.if_icmp .ge 38, 3) := by decide +kernel
theorem dX7_goes_31 : decode cX7_goes 31 = .ok (.aload_n 0, 1) := by decide +kernel
theorem dX7_goes_32 : decode cX7_goes 32 = .ok (.iload_n 1, 1) := by decide +kernel
theorem dX7_goes_33 : decode cX7_goes 33 = .ok (.iload 4, 2) := by decide +kernel
theorem dX7_goes_35 : decode cX7_goes 35 = .ok (.iload_n 2, 1) := by decide +kernel
theorem dX7_goes_36 : decode cX7_goes 36 = .ok (.invokevirtual 166, 3) := by decide +kernel
theorem dX7_goes_39 : decode cX7_goes 39 = .ok (.iload_n 3, 1) := by decide +kernel
theorem dX7_goes_40 : decode cX7_goes 40 = .ok (.aload_n 0, 1) := by decide +kernel
theorem dX7_goes_41 : decode cX7_goes 41 = .ok (.getfield 22, 3) := by decide +kernel
theorem dX7_goes_44 : decode cX7_goes 44 = .ok (.iload 4, 2) := by decide +kernel
theorem dX7_goes_46 : decode cX7_goes 46 = .ok (.iaload, 1) := by decide +kernel
theorem dX7_goes_47 : decode cX7_goes 47 = .ok (.ifCond .le 10, 3) := by decide +kernel
theorem dX7_goes_50 : decode cX7_goes 50 = .ok (.iconst 1, 1) := by decide +kernel
theorem dX7_goes_51 : decode cX7_goes 51 = .ok (.iload 4, 2) := by decide +kernel
theorem dX7_goes_53 : decode cX7_goes 53 = .ok (.ishl, 1) := by decide +kernel
theorem dX7_goes_54 : decode cX7_goes 54 = .ok (.goto 4, 3) := by decide +kernel
theorem dX7_goes_57 : decode cX7_goes 57 = .ok (.iconst 0, 1) := by decide +kernel
theorem dX7_goes_58 : decode cX7_goes 58 = .ok (.ior, 1) := by decide +kernel
theorem dX7_goes_59 : decode cX7_goes 59 = .ok (.istore_n 3, 1) := by decide +kernel
theorem dX7_goes_60 : decode cX7_goes 60 = .ok (.iinc 4 1, 3) := by decide +kernel
theorem dX7_goes_63 : decode cX7_goes 63 = .ok (.goto (-41), 3) := by decide +kernel
theorem dX7_goes_66 : decode cX7_goes 66 = .ok (.iconst 0, 1) := by decide +kernel
theorem dX7_goes_67 : decode cX7_goes 67 = .ok (.istore 4, 2) := by decide +kernel
theorem dX7_goes_69 : decode cX7_goes 69 = .ok (.iload 4, 2) := by decide +kernel
theorem dX7_goes_71 : decode cX7_goes 71 = .ok (.aload_n 0, 1) := by decide +kernel
theorem dX7_goes_72 : decode cX7_goes 72 = .ok (.getfield 56, 3) := by decide +kernel
theorem dX7_goes_75 : decode cX7_goes 75 = .ok (.if_icmp .ge 17, 3) := by decide +kernel
theorem dX7_goes_78 : decode cX7_goes 78 = .ok (.aload_n 0, 1) := by decide +kernel
theorem dX7_goes_79 : decode cX7_goes 79 = .ok (.iload_n 1, 1) := by decide +kernel
theorem dX7_goes_80 : decode cX7_goes 80 = .ok (.iload 4, 2) := by decide +kernel
theorem dX7_goes_82 : decode cX7_goes 82 = .ok (.iload_n 2, 1) := by decide +kernel
theorem dX7_goes_83 : decode cX7_goes 83 = .ok (.invokevirtual 169, 3) := by decide +kernel
theorem dX7_goes_86 : decode cX7_goes 86 = .ok (.iinc 4 1, 3) := by decide +kernel
theorem dX7_goes_89 : decode cX7_goes 89 = .ok (.goto (-20), 3) := by decide +kernel
theorem dX7_goes_92 : decode cX7_goes 92 = .ok (.iconst 0, 1) := by decide +kernel
theorem dX7_goes_93 : decode cX7_goes 93 = .ok (.istore 4, 2) := by decide +kernel
theorem dX7_goes_95 : decode cX7_goes 95 = .ok (.iload 4, 2) := by decide +kernel
theorem dX7_goes_97 : decode cX7_goes 97 = .ok (.aload_n 0, 1) := by decide +kernel
theorem dX7_goes_98 : decode cX7_goes 98 = .ok (.getfield 56, 3) := by decide +kernel
theorem dX7_goes_101 : decode cX7_goes 101 = .ok (.if_icmp .ge 18, 3) := by decide +kernel
theorem dX7_goes_104 : decode cX7_goes 104 = .ok (.aload_n 0, 1) := by decide +kernel
theorem dX7_goes_105 : decode cX7_goes 105 = .ok (.iload_n 1, 1) := by decide +kernel
