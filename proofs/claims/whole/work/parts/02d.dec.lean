theorem dX7_isIn_6 : decode cX7_isIn 6 = .ok (.iload_n 2, 1) := by decide +kernel
theorem dX7_isIn_7 : decode cX7_isIn 7 = .ok (.if_icmp .gt 7, 3) := by decide +kernel
theorem dX7_isIn_10 : decode cX7_isIn 10 = .ok (.iconst 1, 1) := by decide +kernel
theorem dX7_isIn_11 : decode cX7_isIn 11 = .ok (.goto 4, 3) := by decide +kernel
theorem dX7_isIn_14 : decode cX7_isIn 14 = .ok (.iconst 0, 1) := by decide +kernel
theorem dX7_isIn_15 : decode cX7_isIn 15 = .ok (.ireturn, 1) := by decide +kernel
theorem dX7_has_0 : decode cX7_has 0 = .ok (.iload_n 0, 1) := by decide +kernel
theorem dX7_has_1 : decode cX7_has 1 = .ok (.iload_n 1, 1) := by decide +kernel
theorem dX7_has_2 : decode cX7_has 2 = .ok (.ishr, 1) := by decide +kernel
theorem dX7_has_3 : decode cX7_has 3 = .ok (.iconst 1, 1) := by decide +kernel
theorem dX7_has_4 : decode cX7_has 4 = .ok (.iand, 1) := by decide +kernel
theorem dX7_has_5 : decode cX7_has 5 = .ok (.iconst 1, 1) := by decide +kernel
theorem dX7_has_6 : decode cX7_has 6 = .ok (.if_icmp .ne 7, 3) := by decide +kernel
theorem dX7_has_9 : decode cX7_has 9 = .ok (.iconst 1, 1) := by decide +kernel
theorem dX7_has_10 : decode cX7_has 10 = .ok (.goto 4, 3) := by decide +kernel
theorem dX7_has_13 : decode cX7_has 13 = .ok (.iconst 0, 1) := by decide +kernel
theorem dX7_has_14 : decode cX7_has 14 = .ok (.ireturn, 1) := by decide +kernel
theorem dX7_bits_0 : decode cX7_bits 0 = .ok (.iconst 0, 1) := by decide +kernel
theorem dX7_bits_1 : decode cX7_bits 1 = .ok (.istore_n 1, 1) := by decide +kernel
theorem dX7_bits_2 : decode cX7_bits 2 = .ok (.iconst 0, 1) := by decide +kernel
theorem dX7_bits_3 : decode cX7_bits 3 = .ok (.istore_n 2, 1) := by decide +kernel
theorem dX7_bits_4 : decode cX7_bits 4 = .ok (.iload_n 2, 1) := by decide +kernel
theorem dX7_bits_5 : decode cX7_bits 5 = .ok (.bipush 6, 2) := by decide +kernel
theorem dX7_bits_7 : decode cX7_bits 7 = .ok (.if_icmp .ge 17, 3) := by decide +kernel
theorem dX7_bits_10 : decode cX7_bits 10 = .ok (.iload_n 1, 1) := by decide +kernel
theorem dX7_bits_11 : decode cX7_bits 11 = .ok (.iload_n 0, 1) := by decide +kernel
theorem dX7_bits_12 : decode cX7_bits 12 = .ok (.iload_n 2, 1) := by decide +kernel
theorem dX7_bits_13 : decode cX7_bits 13 = .ok (.ishr, 1) := by decide +kernel
theorem dX7_bits_14 : decode cX7_bits 14 = .ok (.iconst 1, 1) := by decide +kernel
theorem dX7_bits_15 : decode cX7_bits 15 = .ok (.iand, 1) := by decide +kernel
theorem dX7_bits_16 : decode cX7_bits 16 = .ok (.iadd, 1) := by decide +kernel
theorem dX7_bits_17 : decode cX7_bits 17 = .ok (.istore_n 1, 1) := by decide +kernel
theorem dX7_bits_18 : decode cX7_bits 18 = .ok (.iinc 2 1, 3) := by decide +kernel
theorem dX7_bits_21 : decode cX7_bits 21 = .ok (.goto (-17), 3) := by decide +kernel
theorem dX7_bits_24 : decode cX7_bits 24 = .ok (.iload_n 1, 1) := by decide +kernel
theorem dX7_bits_25 : decode cX7_bits 25 = .ok (.ireturn, 1) := by decide +kernel
theorem dX7_at_0 : decode cX7_at 0 = .ok (.sipush 440, 3) := by decide +kernel
theorem dX7_at_3 : decode cX7_at 3 = .ok (.iload_n 0, 1) := by decide +kernel
theorem dX7_at_4 : decode cX7_at 4 = .ok (.imul, 1) := by decide +kernel
theorem dX7_at_5 : decode cX7_at 5 = .ok (.bipush 70, 2) := by decide +kernel
theorem dX7_at_7 : decode cX7_at 7 = .ok (.iload_n 1, 1) := by decide +kernel
theorem dX7_at_8 : decode cX7_at 8 = .ok (.imul, 1) := by decide +kernel
theorem dX7_at_9 : decode cX7_at 9 = .ok (.iadd, 1) := by decide +kernel
theorem dX7_at_10 : decode cX7_at 10 = .ok (.ireturn, 1) := by decide +kernel
theorem dX7_hears_0 : decode cX7_hears 0 = .ok (.aload_n 0, 1) := by decide +kernel
theorem dX7_hears_1 : decode cX7_hears 1 = .ok (.getfield 13, 3) := by decide +kernel
theorem dX7_hears_4 : decode cX7_hears 4 = .ok (.sipush 440, 3) := by decide +kernel
theorem dX7_hears_7 : decode cX7_hears 7 = .ok (.iload_n 1, 1) := by decide +kernel
theorem dX7_hears_8 : decode cX7_hears 8 = .ok (.imul, 1) := by decide +kernel
theorem dX7_hears_9 : decode cX7_hears 9 = .ok (.sipush 420, 3) := by decide +kernel
theorem dX7_hears_12 : decode cX7_hears 12 = .ok (.iadd, 1) := by decide +kernel
theorem dX7_hears_13 : decode cX7_hears 13 = .ok (.iload_n 2, 1) := by decide +kernel
theorem dX7_hears_14 : decode cX7_hears 14 = .ok (.iadd, 1) := by decide +kernel
theorem dX7_hears_15 : decode cX7_hears 15 = .ok (.dup2, 1) := by decide +kernel
theorem dX7_hears_16 : decode cX7_hears 16 = .ok (.iaload, 1) := by decide +kernel
theorem dX7_hears_17 : decode cX7_hears 17 = .ok (.iconst 1, 1) := by decide +kernel
theorem dX7_hears_18 : decode cX7_hears 18 = .ok (.iload_n 3, 1) := by decide +kernel
theorem dX7_hears_19 : decode cX7_hears 19 = .ok (.ishl, 1) := by decide +kernel
theorem dX7_hears_20 : decode cX7_hears 20 = .ok (.ior, 1) := by decide +kernel
theorem dX7_hears_21 : decode cX7_hears 21 = .ok (.iastore, 1) := by decide +kernel
theorem dX7_hears_22 : decode cX7_hears 22 = .ok (.aload_n 0, 1) := by decide +kernel
theorem dX7_hears_23 : decode cX7_hears 23 = .ok (.getfield 13, 3) := by decide +kernel
theorem dX7_hears_26 : decode cX7_hears 26 = .ok (.sipush 440, 3) := by decide +kernel
theorem dX7_hears_29 : decode cX7_hears 29 = .ok (.iload_n 1, 1) := by decide +kernel
theorem dX7_hears_30 : decode cX7_hears 30 = .ok (.imul, 1) := by decide +kernel
theorem dX7_hears_31 : decode cX7_hears 31 = .ok (.sipush 420, 3) := by decide +kernel
theorem dX7_hears_34 : decode cX7_hears 34 = .ok (.iadd, 1) := by decide +kernel
theorem dX7_hears_35 : decode cX7_hears 35 = .ok (.iload_n 3, 1) := by decide +kernel
theorem dX7_hears_36 : decode cX7_hears 36 = .ok (.iadd, 1) := by decide +kernel
theorem dX7_hears_37 : decode cX7_hears 37 = .ok (.dup2, 1) := by decide +kernel
theorem dX7_hears_38 : decode cX7_hears 38 = .ok (.iaload, 1) := by decide +kernel
theorem dX7_hears_39 : decode cX7_hears 39 = .ok (.iconst 1, 1) := by decide +kernel
theorem dX7_hears_40 : decode cX7_hears 40 = .ok (.iload_n 2, 1) := by decide +kernel
theorem dX7_hears_41 : decode cX7_hears 41 = .ok (.ishl, 1) := by decide +kernel
theorem dX7_hears_42 : decode cX7_hears 42 = .ok (.ior, 1) := by decide +kernel
theorem dX7_hears_43 : decode cX7_hears 43 = .ok (.iastore, 1) := by decide +kernel
theorem dX7_hears_44 : decode cX7_hears 44 = .ok (.return_, 1) := by decide +kernel
theorem dX7_adds_0 : decode cX7_adds 0 = .ok (.iload_n 1, 1) := by decide +kernel
theorem dX7_adds_1 : decode cX7_adds 1 = .ok (.iload_n 2, 1) := by decide +kernel
theorem dX7_adds_2 : decode cX7_adds 2 = .ok (.invokestatic 52, 3) := by decide +kernel
theorem dX7_adds_5 : decode cX7_adds 5 = .ok (.istore 5, 2) := by decide +kernel
theorem dX7_adds_7 : decode cX7_adds 7 = .ok (.aload_n 0, 1) := by decide +kernel
theorem dX7_adds_8 : decode cX7_adds 8 = .ok (.getfield 13, 3) := by decide +kernel
theorem dX7_adds_11 : decode cX7_adds 11 = .ok (.iload 5, 2) := by decide +kernel
theorem dX7_adds_13 : decode cX7_adds 13 = .ok (.bipush 8, 2) := by decide +kernel
theorem dX7_adds_15 : decode cX7_adds 15 = .ok (.iadd, 1) := by decide +kernel
theorem dX7_adds_16 : decode cX7_adds 16 = .ok (.iaload, 1) := by decide +kernel
theorem dX7_adds_17 : decode cX7_adds 17 = .ok (.istore 6, 2) := by decide +kernel
theorem dX7_adds_19 : decode cX7_adds 19 = .ok (.aload_n 0, 1) := by decide +kernel
theorem dX7_adds_20 : decode cX7_adds 20 = .ok (.getfield 13, 3) := by decide +kernel
theorem dX7_adds_23 : decode cX7_adds 23 = .ok (.iload 5, 2) := by decide +kernel
theorem dX7_adds_25 : decode cX7_adds 25 = .ok (.bipush 9, 2) := by decide +kernel
theorem dX7_adds_27 : decode cX7_adds 27 = .ok (.iadd, 1) := by decide +kernel
theorem dX7_adds_28 : decode cX7_adds 28 = .ok (.iconst 2, 1) := by decide +kernel
theorem dX7_adds_29 : decode cX7_adds 29 = .ok (.iload 6, 2) := by decide +kernel
theorem dX7_adds_31 : decode cX7_adds 31 = .ok (.imul, 1) := by decide +kernel
theorem dX7_adds_32 : decode cX7_adds 32 = .ok (.iadd, 1) := by decide +kernel
theorem dX7_adds_33 : decode cX7_adds 33 = .ok (.iload_n 3, 1) := by decide +kernel
theorem dX7_adds_34 : decode cX7_adds 34 = .ok (.iastore, 1) := by decide +kernel
theorem dX7_adds_35 : decode cX7_adds 35 = .ok (.aload_n 0, 1) := by decide +kernel
theorem dX7_adds_36 : decode cX7_adds 36 = .ok (.getfield 13, 3) := by decide +kernel
theorem dX7_adds_39 : decode cX7_adds 39 = .ok (.iload 5, 2) := by decide +kernel
theorem dX7_adds_41 : decode cX7_adds 41 = .ok (.bipush 9, 2) := by decide +kernel
theorem dX7_adds_43 : decode cX7_adds 43 = .ok (.iadd, 1) := by decide +kernel
theorem dX7_adds_44 : decode cX7_adds 44 = .ok (.iconst 2, 1) := by decide +kernel
theorem dX7_adds_45 : decode cX7_adds 45 = .ok (.iload 6, 2) := by decide +kernel
theorem dX7_adds_47 : decode cX7_adds 47 = .ok (.imul, 1) := by decide +kernel
theorem dX7_adds_48 : decode cX7_adds 48 = .ok (.iadd, 1) := by decide +kernel
theorem dX7_adds_49 : decode cX7_adds 49 = .ok (.iconst 1, 1) := by decide +kernel
theorem dX7_adds_50 : decode cX7_adds 50 = .ok (.iadd, 1) := by decide +kernel
theorem dX7_adds_51 : decode cX7_adds 51 = .ok (.iload 4, 2) := by decide +kernel
theorem dX7_adds_53 : decode cX7_adds 53 = .ok (.iastore, 1) := by decide +kernel
theorem dX7_adds_54 : decode cX7_adds 54 = .ok (.aload_n 0, 1) := by decide +kernel
theorem dX7_adds_55 : decode cX7_adds 55 = .ok (.getfield 13, 3) := by decide +kernel
theorem dX7_adds_58 : decode cX7_adds 58 = .ok (.iload 5, 2) := by decide +kernel
theorem dX7_adds_60 : decode cX7_adds 60 = .ok (.bipush 8, 2) := by decide +kernel
theorem dX7_adds_62 : decode cX7_adds 62 = .ok (.iadd, 1) := by decide +kernel
theorem dX7_adds_63 : decode cX7_adds 63 = .ok (.dup2, 1) := by decide +kernel
theorem dX7_adds_64 : decode cX7_adds 64 = .ok (.iaload, 1) := by decide +kernel
theorem dX7_adds_65 : decode cX7_adds 65 = .ok (.iconst 1, 1) := by decide +kernel
theorem dX7_adds_66 : decode cX7_adds 66 = .ok (.iadd, 1) := by decide +kernel
theorem dX7_adds_67 : decode cX7_adds 67 = .ok (.iastore, 1) := by decide +kernel
theorem dX7_adds_68 : decode cX7_adds 68 = .ok (.return_, 1) := by decide +kernel
theorem dX7_copies_0 : decode cX7_copies 0 = .ok (.iconst 0, 1) := by decide +kernel
theorem dX7_copies_1 : decode cX7_copies 1 = .ok (.istore_n 3, 1) := by decide +kernel
theorem dX7_copies_2 : decode cX7_copies 2 = .ok (.iload_n 3, 1) := by decide +kernel
theorem dX7_copies_3 : decode cX7_copies 3 = .ok (.sipush 440, 3) := by decide +kernel
theorem dX7_copies_6 : decode cX7_copies 6 = .ok (.if_icmp .ge 33, 3) := by decide +kernel
theorem dX7_copies_9 : decode cX7_copies 9 = .ok (.aload_n 0, 1) := by decide +kernel
theorem dX7_copies_10 : decode cX7_copies 10 = .ok (.getfield 13, 3) := by decide +kernel
theorem dX7_copies_13 : decode cX7_copies 13 = .ok (.sipush 440, 3) := by decide +kernel
theorem dX7_copies_16 : decode cX7_copies 16 = .ok (.iload_n 2, 1) := by decide +kernel
theorem dX7_copies_17 : decode cX7_copies 17 = .ok (.imul, 1) := by decide +kernel
theorem dX7_copies_18 : decode cX7_copies 18 = .ok (.iload_n 3, 1) := by decide +kernel
theorem dX7_copies_19 : decode cX7_copies 19 = .ok (.iadd, 1) := by decide +kernel
theorem dX7_copies_20 : decode cX7_copies 20 = .ok (.aload_n 0, 1) := by decide +kernel
theorem dX7_copies_21 : decode cX7_copies 21 = .ok (.getfield 13, 3) := by decide +kernel
theorem dX7_copies_24 : decode cX7_copies 24 = .ok (.sipush 440, 3) := by decide +kernel
theorem dX7_copies_27 : decode cX7_copies 27 = .ok (.iload_n 1, 1) := by decide +kernel
theorem dX7_copies_28 : decode cX7_copies 28 = .ok (.imul, 1) := by decide +kernel
theorem dX7_copies_29 : decode cX7_copies 29 = .ok (.iload_n 3, 1) := by decide +kernel
theorem dX7_copies_30 : decode cX7_copies 30 = .ok (.iadd, 1) := by decide +kernel
theorem dX7_copies_31 : decode cX7_copies 31 = .ok (.iaload, 1) := by decide +kernel
theorem dX7_copies_32 : decode cX7_copies 32 = .ok (.iastore, 1) := by decide +kernel
theorem dX7_copies_33 : decode cX7_copies 33 = .ok (.iinc 3 1, 3) := by decide +kernel
theorem dX7_copies_36 : decode cX7_copies 36 = .ok (.goto (-34), 3) := by decide +kernel
theorem dX7_copies_39 : decode cX7_copies 39 = .ok (.return_, 1) := by decide +kernel
theorem dX7_clears_0 : decode cX7_clears 0 = .ok (.aload_n 0, 1) := by decide +kernel
theorem dX7_clears_1 : decode cX7_clears 1 = .ok (.iconst 0, 1) := by decide +kernel
theorem dX7_clears_2 : decode cX7_clears 2 = .ok (.putfield 37, 3) := by decide +kernel
theorem dX7_clears_5 : decode cX7_clears 5 = .ok (.aload_n 0, 1) := by decide +kernel
theorem dX7_clears_6 : decode cX7_clears 6 = .ok (.getfield 19, 3) := by decide +kernel
theorem dX7_clears_9 : decode cX7_clears 9 = .ok (.iconst 0, 1) := by decide +kernel
theorem dX7_clears_10 : decode cX7_clears 10 = .ok (.iconst 4, 1) := by decide +kernel
theorem dX7_clears_11 : decode cX7_clears 11 = .ok (.iastore, 1) := by decide +kernel
theorem dX7_clears_12 : decode cX7_clears 12 = .ok (.aload_n 0, 1) := by decide +kernel
theorem dX7_clears_13 : decode cX7_clears 13 = .ok (.getfield 19, 3) := by decide +kernel
theorem dX7_clears_16 : decode cX7_clears 16 = .ok (.iconst 1, 1) := by decide +kernel
theorem dX7_clears_17 : decode cX7_clears 17 = .ok (.bipush 32, 2) := by decide +kernel
theorem dX7_clears_19 : decode cX7_clears 19 = .ok (.iastore, 1) := by decide +kernel
theorem dX7_clears_20 : decode cX7_clears 20 = .ok (.aload_n 0, 1) := by decide +kernel
theorem dX7_clears_21 : decode cX7_clears 21 = .ok (.getfield 19, 3) := by decide +kernel
theorem dX7_clears_24 : decode cX7_clears 24 = .ok (.iconst 2, 1) := by decide +kernel
theorem dX7_clears_25 : decode cX7_clears 25 = .ok (.iconst 3, 1) := by decide +kernel
theorem dX7_clears_26 : decode cX7_clears 26 = .ok (.iastore, 1) := by decide +kernel
theorem dX7_clears_27 : decode cX7_clears 27 = .ok (.aload_n 0, 1) := by decide +kernel
theorem dX7_clears_28 : decode cX7_clears 28 = .ok (.getfield 19, 3) := by decide +kernel
theorem dX7_clears_31 : decode cX7_clears 31 = .ok (.iconst 3, 1) := by decide +kernel
theorem dX7_clears_32 : decode cX7_clears 32 = .ok (.iconst 5, 1) := by decide +kernel
theorem dX7_clears_33 : decode cX7_clears 33 = .ok (.iastore, 1) := by decide +kernel
theorem dX7_clears_34 : decode cX7_clears 34 = .ok (.iconst 0, 1) := by decide +kernel
theorem dX7_clears_35 : decode cX7_clears 35 = .ok (.istore_n 1, 1) := by decide +kernel
theorem dX7_clears_36 : decode cX7_clears 36 = .ok (.iload_n 1, 1) := by decide +kernel
theorem dX7_clears_37 : decode cX7_clears 37 = .ok (.sipush 440, 3) := by decide +kernel
theorem dX7_clears_40 : decode cX7_clears 40 = .ok (.if_icmp .ge 20, 3) := by decide +kernel
theorem dX7_clears_43 : decode cX7_clears 43 = .ok (.aload_n 0, 1) := by decide +kernel
theorem dX7_clears_44 : decode cX7_clears 44 = .ok (.getfield 13, 3) := by decide +kernel
theorem dX7_clears_47 : decode cX7_clears 47 = .ok (.sipush 880, 3) := by decide +kernel
theorem dX7_clears_50 : decode cX7_clears 50 = .ok (.iload_n 1, 1) := by decide +kernel
theorem dX7_clears_51 : decode cX7_clears 51 = .ok (.iadd, 1) := by decide +kernel
theorem dX7_clears_52 : decode cX7_clears 52 = .ok (.iconst 0, 1) := by decide +kernel
theorem dX7_clears_53 : decode cX7_clears 53 = .ok (.iastore, 1) := by decide +kernel
theorem dX7_clears_54 : decode cX7_clears 54 = .ok (.iinc 1 1, 3) := by decide +kernel
theorem dX7_clears_57 : decode cX7_clears 57 = .ok (.goto (-21), 3) := by decide +kernel
theorem dX7_clears_60 : decode cX7_clears 60 = .ok (.return_, 1) := by decide +kernel
theorem dX7_takes_0 : decode cX7_takes 0 = .ok (.aload_n 0, 1) := by decide +kernel
theorem dX7_takes_1 : decode cX7_takes 1 = .ok (.aload_n 0, 1) := by decide +kernel
theorem dX7_takes_2 : decode cX7_takes 2 = .ok (.getfield 37, 3) := by decide +kernel
theorem dX7_takes_5 : decode cX7_takes 5 = .ok (.putfield 56, 3) := by decide +kernel
theorem dX7_takes_8 : decode cX7_takes 8 = .ok (.aload_n 0, 1) := by decide +kernel
theorem dX7_takes_9 : decode cX7_takes 9 = .ok (.aload_n 0, 1) := by decide +kernel
theorem dX7_takes_10 : decode cX7_takes 10 = .ok (.getfield 19, 3) := by decide +kernel
theorem dX7_takes_13 : decode cX7_takes 13 = .ok (.iconst 0, 1) := by decide +kernel
theorem dX7_takes_14 : decode cX7_takes 14 = .ok (.iaload, 1) := by decide +kernel
theorem dX7_takes_15 : decode cX7_takes 15 = .ok (.putfield 59, 3) := by decide +kernel
theorem dX7_takes_18 : decode cX7_takes 18 = .ok (.aload_n 0, 1) := by decide +kernel
theorem dX7_takes_19 : decode cX7_takes 19 = .ok (.aload_n 0, 1) := by decide +kernel
theorem dX7_takes_20 : decode cX7_takes 20 = .ok (.getfield 19, 3) := by decide +kernel
theorem dX7_takes_23 : decode cX7_takes 23 = .ok (.iconst 1, 1) := by decide +kernel
theorem dX7_takes_24 : decode cX7_takes 24 = .ok (.iaload, 1) := by decide +kernel
theorem dX7_takes_25 : decode cX7_takes 25 = .ok (.putfield 62, 3) := by decide +kernel
theorem dX7_takes_28 : decode cX7_takes 28 = .ok (.aload_n 0, 1) := by decide +kernel
theorem dX7_takes_29 : decode cX7_takes 29 = .ok (.aload_n 0, 1) := by decide +kernel
theorem dX7_takes_30 : decode cX7_takes 30 = .ok (.getfield 19, 3) := by decide +kernel
theorem dX7_takes_33 : decode cX7_takes 33 = .ok (.iconst 2, 1) := by decide +kernel
theorem dX7_takes_34 : decode cX7_takes 34 = .ok (.iaload, 1) := by decide +kernel
theorem dX7_takes_35 : decode cX7_takes 35 = .ok (.putfield 65, 3) := by decide +kernel
theorem dX7_takes_38 : decode cX7_takes 38 = .ok (.aload_n 0, 1) := by decide +kernel
theorem dX7_takes_39 : decode cX7_takes 39 = .ok (.aload_n 0, 1) := by decide +kernel
theorem dX7_takes_40 : decode cX7_takes 40 = .ok (.getfield 19, 3) := by decide +kernel
theorem dX7_takes_43 : decode cX7_takes 43 = .ok (.iconst 3, 1) := by decide +kernel
theorem dX7_takes_44 : decode cX7_takes 44 = .ok (.iaload, 1) := by decide +kernel
theorem dX7_takes_45 : decode cX7_takes 45 = .ok (.putfield 68, 3) := by decide +kernel
theorem dX7_takes_48 : decode cX7_takes 48 = .ok (.aload_n 0, 1) := by decide +kernel
theorem dX7_takes_49 : decode cX7_takes 49 = .ok (.iconst 2, 1) := by decide +kernel
theorem dX7_takes_50 : decode cX7_takes 50 = .ok (.iconst 0, 1) := by decide +kernel
theorem dX7_takes_51 : decode cX7_takes 51 = .ok (.invokevirtual 71, 3) := by decide +kernel
theorem dX7_takes_54 : decode cX7_takes 54 = .ok (.aload_n 0, 1) := by decide +kernel
theorem dX7_takes_55 : decode cX7_takes 55 = .ok (.iconst 0, 1) := by decide +kernel
theorem dX7_takes_56 : decode cX7_takes 56 = .ok (.putfield 75, 3) := by decide +kernel
theorem dX7_takes_59 : decode cX7_takes 59 = .ok (.iconst 0, 1) := by decide +kernel
theorem dX7_takes_60 : decode cX7_takes 60 = .ok (.istore_n 1, 1) := by decide +kernel
theorem dX7_takes_61 : decode cX7_takes 61 = .ok (.iload_n 1, 1) := by decide +kernel
theorem dX7_takes_62 : decode cX7_takes 62 = .ok (.aload_n 0, 1) := by decide +kernel
theorem dX7_takes_63 : decode cX7_takes 63 = .ok (.getfield 56, 3) := by decide +kernel
theorem dX7_takes_66 : decode cX7_takes 66 = .ok (.if_icmp .ge 31, 3) := by decide +kernel
theorem dX7_takes_69 : decode cX7_takes 69 = .ok (.aload_n 0, 1) := by decide +kernel
theorem dX7_takes_70 : decode cX7_takes 70 = .ok (.getfield 13, 3) := by decide +kernel
theorem dX7_takes_73 : decode cX7_takes 73 = .ok (.iconst 0, 1) := by decide +kernel
theorem dX7_takes_74 : decode cX7_takes 74 = .ok (.iload_n 1, 1) := by decide +kernel
theorem dX7_takes_75 : decode cX7_takes 75 = .ok (.invokestatic 52, 3) := by decide +kernel
theorem dX7_takes_78 : decode cX7_takes 78 = .ok (.iconst 0, 1) := by decide +kernel
theorem dX7_takes_79 : decode cX7_takes 79 = .ok (.iadd, 1) := by decide +kernel
theorem dX7_takes_80 : decode cX7_takes 80 = .ok (.aload_n 0, 1) := by decide +kernel
theorem dX7_takes_81 : decode cX7_takes 81 = .ok (.getfield 59, 3) := by decide +kernel
theorem dX7_takes_84 : decode cX7_takes 84 = .ok (.iastore, 1) := by decide +kernel
theorem dX7_takes_85 : decode cX7_takes 85 = .ok (.aload_n 0, 1) := by decide +kernel
theorem dX7_takes_86 : decode cX7_takes 86 = .ok (.iconst 0, 1) := by decide +kernel
theorem dX7_takes_87 : decode cX7_takes 87 = .ok (.iload_n 1, 1) := by decide +kernel
theorem dX7_takes_88 : decode cX7_takes 88 = .ok (.invokevirtual 78, 3) := by decide +kernel
theorem dX7_takes_91 : decode cX7_takes 91 = .ok (.iinc 1 1, 3) := by decide +kernel
theorem dX7_takes_94 : decode cX7_takes 94 = .ok (.goto (-33), 3) := by decide +kernel
theorem dX7_takes_97 : decode cX7_takes 97 = .ok (.return_, 1) := by decide +kernel
theorem dX7_letterAt_0 : decode cX7_letterAt 0 = .ok (.iload_n 1, 1) := by decide +kernel
theorem dX7_letterAt_1 : decode cX7_letterAt 1 = .ok (.aload_n 0, 1) := by decide +kernel
theorem dX7_letterAt_2 : decode cX7_letterAt 2 = .ok (.getfield 81, 3) := by decide +kernel
theorem dX7_letterAt_5 : decode cX7_letterAt 5 = .ok (.if_icmp .ge 12, 3) := by decide +kernel
theorem dX7_letterAt_8 : decode cX7_letterAt 8 = .ok (.aload_n 0, 1) := by decide +kernel
theorem dX7_letterAt_9 : decode cX7_letterAt 9 = .ok (.getfield 7, 3) := by decide +kernel
theorem dX7_letterAt_12 : decode cX7_letterAt 12 = .ok (.iload_n 1, 1) := by decide +kernel
theorem dX7_letterAt_13 : decode cX7_letterAt 13 = .ok (.iaload, 1) := by decide +kernel
theorem dX7_letterAt_14 : decode cX7_letterAt 14 = .ok (.goto 4, 3) := by decide +kernel
theorem dX7_letterAt_17 : decode cX7_letterAt 17 = .ok (.iconst 0, 1) := by decide +kernel
theorem dX7_letterAt_18 : decode cX7_letterAt 18 = .ok (.ireturn, 1) := by decide +kernel
theorem dX7_number_0 : decode cX7_number 0 = .ok (.aload_n 0, 1) := by decide +kernel
theorem dX7_number_1 : decode cX7_number 1 = .ok (.iconst 0, 1) := by decide +kernel
theorem dX7_number_2 : decode cX7_number 2 = .ok (.putfield 84, 3) := by decide +kernel
theorem dX7_number_5 : decode cX7_number 5 = .ok (.aload_n 0, 1) := by decide +kernel
theorem dX7_number_6 : decode cX7_number 6 = .ok (.iload_n 1, 1) := by decide +kernel
theorem dX7_number_7 : decode cX7_number 7 = .ok (.putfield 87, 3) := by decide +kernel
theorem dX7_number_10 : decode cX7_number 10 = .ok (.aload_n 0, 1) := by decide +kernel
theorem dX7_number_11 : decode cX7_number 11 = .ok (.getfield 87, 3) := by decide +kernel
theorem dX7_number_14 : decode cX7_number 14 = .ok (.iload_n 1, 1) := by decide +kernel
theorem dX7_number_15 : decode cX7_number 15 = .ok (.iconst 4, 1) := by decide +kernel
theorem dX7_number_16 : decode cX7_number 16 = .ok (.iadd, 1) := by decide +kernel
theorem dX7_number_17 : decode cX7_number 17 = .ok (.if_icmp .ge 66, 3) := by decide +kernel
theorem dX7_number_20 : decode cX7_number 20 = .ok (.aload_n 0, 1) := by decide +kernel
theorem dX7_number_21 : decode cX7_number 21 = .ok (.aload_n 0, 1) := by decide +kernel
theorem dX7_number_22 : decode cX7_number 22 = .ok (.getfield 87, 3) := by decide +kernel
theorem dX7_number_25 : decode cX7_number 25 = .ok (.invokevirtual 90, 3) := by decide +kernel
theorem dX7_number_28 : decode cX7_number 28 = .ok (.bipush 48, 2) := by decide +kernel
theorem dX7_number_30 : decode cX7_number 30 = .ok (.if_icmp .lt 53, 3) := by decide +kernel
theorem dX7_number_33 : decode cX7_number 33 = .ok (.aload_n 0, 1) := by decide +kernel
theorem dX7_number_34 : decode cX7_number 34 = .ok (.aload_n 0, 1) := by decide +kernel
theorem dX7_number_35 : decode cX7_number 35 = .ok (.getfield 87, 3) := by decide +kernel
theorem dX7_number_38 : decode cX7_number 38 = .ok (.invokevirtual 90, 3) := by decide +kernel
theorem dX7_number_41 : decode cX7_number 41 = .ok (.bipush 57, 2) := by decide +kernel
theorem dX7_number_43 : decode cX7_number 43 = .ok (.if_icmp .gt 40, 3) := by decide +kernel
theorem dX7_number_46 : decode cX7_number 46 = .ok (.aload_n 0, 1) := by decide +kernel
theorem dX7_number_47 : decode cX7_number 47 = .ok (.bipush 10, 2) := by decide +kernel
theorem dX7_number_49 : decode cX7_number 49 = .ok (.aload_n 0, 1) := by decide +kernel
theorem dX7_number_50 : decode cX7_number 50 = .ok (.getfield 84, 3) := by decide +kernel
theorem dX7_number_53 : decode cX7_number 53 = .ok (.imul, 1) := by decide +kernel
theorem dX7_number_54 : decode cX7_number 54 = .ok (.aload_n 0, 1) := by decide +kernel
theorem dX7_number_55 : decode cX7_number 55 = .ok (.getfield 7, 3) := by decide +kernel
theorem dX7_number_58 : decode cX7_number 58 = .ok (.aload_n 0, 1) := by decide +kernel
theorem dX7_number_59 : decode cX7_number 59 = .ok (.getfield 87, 3) := by decide +kernel
theorem dX7_number_62 : decode cX7_number 62 = .ok (.iaload, 1) := by decide +kernel
theorem dX7_number_63 : decode cX7_number 63 = .ok (.iadd, 1) := by decide +kernel
theorem dX7_number_64 : decode cX7_number 64 = .ok (.bipush 48, 2) := by decide +kernel
theorem dX7_number_66 : decode cX7_number 66 = .ok (.isub, 1) := by decide +kernel
theorem dX7_number_67 : decode cX7_number 67 = .ok (.putfield 84, 3) := by decide +kernel
theorem dX7_number_70 : decode cX7_number 70 = .ok (.aload_n 0, 1) := by decide +kernel
theorem dX7_number_71 : decode cX7_number 71 = .ok (.dup, 1) := by decide +kernel
theorem dX7_number_72 : decode cX7_number 72 = .ok (.getfield 87, 3) := by decide +kernel
theorem dX7_number_75 : decode cX7_number 75 = .ok (.iconst 1, 1) := by decide +kernel
theorem dX7_number_76 : decode cX7_number 76 = .ok (.iadd, 1) := by decide +kernel
theorem dX7_number_77 : decode cX7_number 77 = .ok (.putfield 87, 3) := by decide +kernel
theorem dX7_number_80 : decode cX7_number 80 = .ok (.goto (-70), 3) := by decide +kernel
theorem dX7_number_83 : decode cX7_number 83 = .ok (.aload_n 0, 1) := by decide +kernel
theorem dX7_number_84 : decode cX7_number 84 = .ok (.getfield 87, 3) := by decide +kernel
theorem dX7_number_87 : decode cX7_number 87 = .ok (.iload_n 1, 1) := by decide +kernel
theorem dX7_number_88 : decode cX7_number 88 = .ok (.if_icmp .le 19, 3) := by decide +kernel
theorem dX7_number_91 : decode cX7_number 91 = .ok (.aload_n 0, 1) := by decide +kernel
theorem dX7_number_92 : decode cX7_number 92 = .ok (.getfield 84, 3) := by decide +kernel
theorem dX7_number_95 : decode cX7_number 95 = .ok (.iload_n 2, 1) := by decide +kernel
theorem dX7_number_96 : decode cX7_number 96 = .ok (.iload_n 3, 1) := by decide +kernel
theorem dX7_number_97 : decode cX7_number 97 = .ok (.invokestatic 94, 3) := by decide +kernel
theorem dX7_number_100 : decode cX7_number 100 = .ok (.ifCond .eq 7, 3) := by decide +kernel
theorem dX7_number_103 : decode cX7_number 103 = .ok (.iconst 1, 1) := by decide +kernel
theorem dX7_number_104 : decode cX7_number 104 = .ok (.goto 4, 3) := by decide +kernel
theorem dX7_number_107 : decode cX7_number 107 = .ok (.iconst 0, 1) := by decide +kernel
theorem dX7_number_108 : decode cX7_number 108 = .ok (.ireturn, 1) := by decide +kernel
theorem dX7_more_0 : decode cX7_more 0 = .ok (.aload_n 0, 1) := by decide +kernel
theorem dX7_more_1 : decode cX7_more 1 = .ok (.aload_n 0, 1) := by decide +kernel
theorem dX7_more_2 : decode cX7_more 2 = .ok (.getfield 87, 3) := by decide +kernel
theorem dX7_more_5 : decode cX7_more 5 = .ok (.invokevirtual 90, 3) := by decide +kernel
theorem dX7_more_8 : decode cX7_more 8 = .ok (.bipush 44, 2) := by decide +kernel
theorem dX7_more_10 : decode cX7_more 10 = .ok (.if_icmp .ne 22, 3) := by decide +kernel
theorem dX7_more_13 : decode cX7_more 13 = .ok (.aload_n 0, 1) := by decide +kernel
theorem dX7_more_14 : decode cX7_more 14 = .ok (.aload_n 0, 1) := by decide +kernel
theorem dX7_more_15 : decode cX7_more 15 = .ok (.getfield 87, 3) := by decide +kernel
theorem dX7_more_18 : decode cX7_more 18 = .ok (.iconst 1, 1) := by decide +kernel
theorem dX7_more_19 : decode cX7_more 19 = .ok (.iadd, 1) := by decide +kernel
theorem dX7_more_20 : decode cX7_more 20 = .ok (.iload_n 1, 1) := by decide +kernel
theorem dX7_more_21 : decode cX7_more 21 = .ok (.iload_n 2, 1) := by decide +kernel
theorem dX7_more_22 : decode cX7_more 22 = .ok (.invokevirtual 98, 3) := by decide +kernel
theorem dX7_more_25 : decode cX7_more 25 = .ok (.ifCond .eq 7, 3) := by decide +kernel
theorem dX7_more_28 : decode cX7_more 28 = .ok (.iconst 1, 1) := by decide +kernel
theorem dX7_more_29 : decode cX7_more 29 = .ok (.goto 4, 3) := by decide +kernel
theorem dX7_more_32 : decode cX7_more 32 = .ok (.iconst 0, 1) := by decide +kernel
theorem dX7_more_33 : decode cX7_more 33 = .ok (.ireturn, 1) := by decide +kernel
theorem dX7_readsLetter_0 : decode cX7_readsLetter 0 = .ok (.aload_n 0, 1) := by decide +kernel
theorem dX7_readsLetter_1 : decode cX7_readsLetter 1 = .ok (.iload_n 1, 1) := by decide +kernel
theorem dX7_readsLetter_2 : decode cX7_readsLetter 2 = .ok (.iconst 0, 1) := by decide +kernel
theorem dX7_readsLetter_3 : decode cX7_readsLetter 3 = .ok (.aload_n 0, 1) := by decide +kernel
theorem dX7_readsLetter_4 : decode cX7_readsLetter 4 = .ok (.getfield 37, 3) := by decide +kernel
theorem dX7_readsLetter_7 : decode cX7_readsLetter 7 = .ok (.iconst 1, 1) := by decide +kernel
theorem dX7_readsLetter_8 : decode cX7_readsLetter 8 = .ok (.isub, 1) := by decide +kernel
theorem dX7_readsLetter_9 : decode cX7_readsLetter 9 = .ok (.invokevirtual 98, 3) := by decide +kernel
theorem dX7_readsLetter_12 : decode cX7_readsLetter 12 = .ok (.ifCond .ne 5, 3) := by decide +kernel
theorem dX7_readsLetter_15 : decode cX7_readsLetter 15 = .ok (.iconst 0, 1) := by decide +kernel
theorem dX7_readsLetter_16 : decode cX7_readsLetter 16 = .ok (.ireturn, 1) := by decide +kernel
theorem dX7_readsLetter_17 : decode cX7_readsLetter 17 = .ok (.aload_n 0, 1) := by decide +kernel
theorem dX7_readsLetter_18 : decode cX7_readsLetter 18 = .ok (.getfield 84, 3) := by decide +kernel
theorem dX7_readsLetter_21 : decode cX7_readsLetter 21 = .ok (.istore_n 2, 1) := by decide +kernel
theorem dX7_readsLetter_22 : decode cX7_readsLetter 22 = .ok (.aload_n 0, 1) := by decide +kernel
theorem dX7_readsLetter_23 : decode cX7_readsLetter 23 = .ok (.iconst 0, 1) := by decide +kernel
theorem dX7_readsLetter_24 : decode cX7_readsLetter 24 = .ok (.aload_n 0, 1) := by decide +kernel
theorem dX7_readsLetter_25 : decode cX7_readsLetter 25 = .ok (.getfield 37, 3) := by decide +kernel
theorem dX7_readsLetter_28 : decode cX7_readsLetter 28 = .ok (.iconst 1, 1) := by decide +kernel
theorem dX7_readsLetter_29 : decode cX7_readsLetter 29 = .ok (.isub, 1) := by decide +kernel
theorem dX7_readsLetter_30 : decode cX7_readsLetter 30 = .ok (.invokevirtual 101, 3) := by decide +kernel
theorem dX7_readsLetter_33 : decode cX7_readsLetter 33 = .ok (.ifCond .eq 23, 3) := by decide +kernel
theorem dX7_readsLetter_36 : decode cX7_readsLetter 36 = .ok (.aload_n 0, 1) := by decide +kernel
theorem dX7_readsLetter_37 : decode cX7_readsLetter 37 = .ok (.getfield 13, 3) := by decide +kernel
theorem dX7_readsLetter_40 : decode cX7_readsLetter 40 = .ok (.sipush 1300, 3) := by decide +kernel
theorem dX7_readsLetter_43 : decode cX7_readsLetter 43 = .ok (.iload_n 2, 1) := by decide +kernel
theorem dX7_readsLetter_44 : decode cX7_readsLetter 44 = .ok (.iadd, 1) := by decide +kernel
theorem dX7_readsLetter_45 : decode cX7_readsLetter 45 = .ok (.iaload, 1) := by decide +kernel
theorem dX7_readsLetter_46 : decode cX7_readsLetter 46 = .ok (.aload_n 0, 1) := by decide +kernel
theorem dX7_readsLetter_47 : decode cX7_readsLetter 47 = .ok (.getfield 84, 3) := by decide +kernel
theorem dX7_readsLetter_50 : decode cX7_readsLetter 50 = .ok (.invokestatic 105, 3) := by decide +kernel
theorem dX7_readsLetter_53 : decode cX7_readsLetter 53 = .ok (.ifCond .ne 5, 3) := by decide +kernel
theorem dX7_readsLetter_56 : decode cX7_readsLetter 56 = .ok (.iconst 0, 1) := by decide +kernel
theorem dX7_readsLetter_57 : decode cX7_readsLetter 57 = .ok (.ireturn, 1) := by decide +kernel
theorem dX7_readsLetter_58 : decode cX7_readsLetter 58 = .ok (.aload_n 0, 1) := by decide +kernel
theorem dX7_readsLetter_59 : decode cX7_readsLetter 59 = .ok (.getfield 84, 3) := by decide +kernel
theorem dX7_readsLetter_62 : decode cX7_readsLetter 62 = .ok (.istore_n 3, 1) := by decide +kernel
theorem dX7_readsLetter_63 : decode cX7_readsLetter 63 = .ok (.aload_n 0, 1) := by decide +kernel
theorem dX7_readsLetter_64 : decode cX7_readsLetter 64 = .ok (.getfield 13, 3) := by decide +kernel
theorem dX7_readsLetter_67 : decode cX7_readsLetter 67 = .ok (.iconst 2, 1) := by decide +kernel
theorem dX7_readsLetter_68 : decode cX7_readsLetter 68 = .ok (.iload_n 2, 1) := by decide +kernel
theorem dX7_readsLetter_69 : decode cX7_readsLetter 69 = .ok (.invokestatic 52, 3) := by decide +kernel
theorem dX7_readsLetter_72 : decode cX7_readsLetter 72 = .ok (.bipush 8, 2) := by decide +kernel
theorem dX7_readsLetter_74 : decode cX7_readsLetter 74 = .ok (.iadd, 1) := by decide +kernel
theorem dX7_readsLetter_75 : decode cX7_readsLetter 75 = .ok (.iaload, 1) := by decide +kernel
theorem dX7_readsLetter_76 : decode cX7_readsLetter 76 = .ok (.bipush 6, 2) := by decide +kernel
theorem dX7_readsLetter_78 : decode cX7_readsLetter 78 = .ok (.if_icmp .ge 17, 3) := by decide +kernel
theorem dX7_readsLetter_81 : decode cX7_readsLetter 81 = .ok (.aload_n 0, 1) := by decide +kernel
theorem dX7_readsLetter_82 : decode cX7_readsLetter 82 = .ok (.iconst 1, 1) := by decide +kernel
theorem dX7_readsLetter_83 : decode cX7_readsLetter 83 = .ok (.bipush 9, 2) := by decide +kernel
theorem dX7_readsLetter_85 : decode cX7_readsLetter 85 = .ok (.invokevirtual 101, 3) := by decide +kernel
theorem dX7_readsLetter_88 : decode cX7_readsLetter 88 = .ok (.ifCond .eq 7, 3) := by decide +kernel
theorem dX7_readsLetter_91 : decode cX7_readsLetter 91 = .ok (.iconst 1, 1) := by decide +kernel
theorem dX7_readsLetter_92 : decode cX7_readsLetter 92 = .ok (.goto 4, 3) := by decide +kernel
theorem dX7_readsLetter_95 : decode cX7_readsLetter 95 = .ok (.iconst 0, 1) := by decide +kernel
theorem dX7_readsLetter_96 : decode cX7_readsLetter 96 = .ok (.istore 4, 2) := by decide +kernel
theorem dX7_readsLetter_98 : decode cX7_readsLetter 98 = .ok (.iload 4, 2) := by decide +kernel
theorem dX7_readsLetter_100 : decode cX7_readsLetter 100 = .ok (.ifCond .eq 14, 3) := by decide +kernel
theorem dX7_readsLetter_103 : decode cX7_readsLetter 103 = .ok (.aload_n 0, 1) := by decide +kernel
theorem dX7_readsLetter_104 : decode cX7_readsLetter 104 = .ok (.iconst 2, 1) := by decide +kernel
theorem dX7_readsLetter_105 : decode cX7_readsLetter 105 = .ok (.iload_n 2, 1) := by decide +kernel
theorem dX7_readsLetter_106 : decode cX7_readsLetter 106 = .ok (.iload_n 3, 1) := by decide +kernel
theorem dX7_readsLetter_107 : decode cX7_readsLetter 107 = .ok (.aload_n 0, 1) := by decide +kernel
theorem dX7_readsLetter_108 : decode cX7_readsLetter 108 = .ok (.getfield 84, 3) := by decide +kernel
theorem dX7_readsLetter_111 : decode cX7_readsLetter 111 = .ok (.invokevirtual 45, 3) := by decide +kernel
theorem dX7_readsLetter_114 : decode cX7_readsLetter 114 = .ok (.iload 4, 2) := by decide +kernel
theorem dX7_readsLetter_116 : decode cX7_readsLetter 116 = .ok (.ireturn, 1) := by decide +kernel
theorem dX7_readsPair_0 : decode cX7_readsPair 0 = .ok (.aload_n 0, 1) := by decide +kernel
theorem dX7_readsPair_1 : decode cX7_readsPair 1 = .ok (.iload_n 1, 1) := by decide +kernel
theorem dX7_readsPair_2 : decode cX7_readsPair 2 = .ok (.iconst 0, 1) := by decide +kernel
theorem dX7_readsPair_3 : decode cX7_readsPair 3 = .ok (.aload_n 0, 1) := by decide +kernel
theorem dX7_readsPair_4 : decode cX7_readsPair 4 = .ok (.getfield 37, 3) := by decide +kernel
theorem dX7_readsPair_7 : decode cX7_readsPair 7 = .ok (.iconst 1, 1) := by decide +kernel
theorem dX7_readsPair_8 : decode cX7_readsPair 8 = .ok (.isub, 1) := by decide +kernel
theorem dX7_readsPair_9 : decode cX7_readsPair 9 = .ok (.invokevirtual 98, 3) := by decide +kernel
theorem dX7_readsPair_12 : decode cX7_readsPair 12 = .ok (.ifCond .ne 5, 3) := by decide +kernel
theorem dX7_readsPair_15 : decode cX7_readsPair 15 = .ok (.iconst 0, 1) := by decide +kernel
theorem dX7_readsPair_16 : decode cX7_readsPair 16 = .ok (.ireturn, 1) := by decide +kernel
theorem dX7_readsPair_17 : decode cX7_readsPair 17 = .ok (.aload_n 0, 1) := by decide +kernel
theorem dX7_readsPair_18 : decode cX7_readsPair 18 = .ok (.getfield 84, 3) := by decide +kernel
theorem dX7_readsPair_21 : decode cX7_readsPair 21 = .ok (.istore_n 2, 1) := by decide +kernel
theorem dX7_readsPair_22 : decode cX7_readsPair 22 = .ok (.aload_n 0, 1) := by decide +kernel
theorem dX7_readsPair_23 : decode cX7_readsPair 23 = .ok (.iconst 0, 1) := by decide +kernel
theorem dX7_readsPair_24 : decode cX7_readsPair 24 = .ok (.aload_n 0, 1) := by decide +kernel
theorem dX7_readsPair_25 : decode cX7_readsPair 25 = .ok (.getfield 37, 3) := by decide +kernel
theorem dX7_readsPair_28 : decode cX7_readsPair 28 = .ok (.iconst 1, 1) := by decide +kernel
theorem dX7_readsPair_29 : decode cX7_readsPair 29 = .ok (.isub, 1) := by decide +kernel
theorem dX7_readsPair_30 : decode cX7_readsPair 30 = .ok (.invokevirtual 101, 3) := by decide +kernel
theorem dX7_readsPair_33 : decode cX7_readsPair 33 = .ok (.ifCond .eq 15, 3) := by decide +kernel
theorem dX7_readsPair_36 : decode cX7_readsPair 36 = .ok (.aload_n 0, 1) := by decide +kernel
theorem dX7_readsPair_37 : decode cX7_readsPair 37 = .ok (.getfield 84, 3) := by decide +kernel
theorem dX7_readsPair_40 : decode cX7_readsPair 40 = .ok (.iload_n 2, 1) := by decide +kernel
theorem dX7_readsPair_41 : decode cX7_readsPair 41 = .ok (.if_icmp .eq 7, 3) := by decide +kernel
theorem dX7_readsPair_44 : decode cX7_readsPair 44 = .ok (.iconst 1, 1) := by decide +kernel
theorem dX7_readsPair_45 : decode cX7_readsPair 45 = .ok (.goto 4, 3) := by decide +kernel
theorem dX7_readsPair_48 : decode cX7_readsPair 48 = .ok (.iconst 0, 1) := by decide +kernel
theorem dX7_readsPair_49 : decode cX7_readsPair 49 = .ok (.istore_n 3, 1) := by decide +kernel
theorem dX7_readsPair_50 : decode cX7_readsPair 50 = .ok (.iload_n 3, 1) := by decide +kernel
theorem dX7_readsPair_51 : decode cX7_readsPair 51 = .ok (.ifCond .eq 13, 3) := by decide +kernel
theorem dX7_readsPair_54 : decode cX7_readsPair 54 = .ok (.aload_n 0, 1) := by decide +kernel
theorem dX7_readsPair_55 : decode cX7_readsPair 55 = .ok (.iconst 2, 1) := by decide +kernel
theorem dX7_readsPair_56 : decode cX7_readsPair 56 = .ok (.iload_n 2, 1) := by decide +kernel
theorem dX7_readsPair_57 : decode cX7_readsPair 57 = .ok (.aload_n 0, 1) := by decide +kernel
theorem dX7_readsPair_58 : decode cX7_readsPair 58 = .ok (.getfield 84, 3) := by decide +kernel
theorem dX7_readsPair_61 : decode cX7_readsPair 61 = .ok (.invokevirtual 41, 3) := by decide +kernel
theorem dX7_readsPair_64 : decode cX7_readsPair 64 = .ok (.iload_n 3, 1) := by decide +kernel
theorem dX7_readsPair_65 : decode cX7_readsPair 65 = .ok (.ireturn, 1) := by decide +kernel
theorem dX7_readsRules_0 : decode cX7_readsRules 0 = .ok (.aload_n 0, 1) := by decide +kernel
theorem dX7_readsRules_1 : decode cX7_readsRules 1 = .ok (.iload_n 1, 1) := by decide +kernel
theorem dX7_readsRules_2 : decode cX7_readsRules 2 = .ok (.iconst 1, 1) := by decide +kernel
theorem dX7_readsRules_3 : decode cX7_readsRules 3 = .ok (.iload_n 2, 1) := by decide +kernel
theorem dX7_readsRules_4 : decode cX7_readsRules 4 = .ok (.ifCond .ne 8, 3) := by decide +kernel
theorem dX7_readsRules_7 : decode cX7_readsRules 7 = .ok (.bipush 16, 2) := by decide +kernel
theorem dX7_readsRules_9 : decode cX7_readsRules 9 = .ok (.goto 5, 3) := by decide +kernel
theorem dX7_readsRules_12 : decode cX7_readsRules 12 = .ok (.bipush 10, 2) := by decide +kernel
theorem dX7_readsRules_14 : decode cX7_readsRules 14 = .ok (.invokevirtual 98, 3) := by decide +kernel
theorem dX7_readsRules_17 : decode cX7_readsRules 17 = .ok (.ifCond .ne 5, 3) := by decide +kernel
theorem dX7_readsRules_20 : decode cX7_readsRules 20 = .ok (.iconst 0, 1) := by decide +kernel
theorem dX7_readsRules_21 : decode cX7_readsRules 21 = .ok (.ireturn, 1) := by decide +kernel
theorem dX7_readsRules_22 : decode cX7_readsRules 22 = .ok (.aload_n 0, 1) := by decide +kernel
theorem dX7_readsRules_23 : decode cX7_readsRules 23 = .ok (.getfield 19, 3) := by decide +kernel
theorem dX7_readsRules_26 : decode cX7_readsRules 26 = .ok (.iload_n 2, 1) := by decide +kernel
theorem dX7_readsRules_27 : decode cX7_readsRules 27 = .ok (.aload_n 0, 1) := by decide +kernel
theorem dX7_readsRules_28 : decode cX7_readsRules 28 = .ok (.getfield 84, 3) := by decide +kernel
theorem dX7_readsRules_31 : decode cX7_readsRules 31 = .ok (.iastore, 1) := by decide +kernel
theorem dX7_readsRules_32 : decode cX7_readsRules 32 = .ok (.aload_n 0, 1) := by decide +kernel
theorem dX7_readsRules_33 : decode cX7_readsRules 33 = .ok (.iload_n 2, 1) := by decide +kernel
theorem dX7_readsRules_34 : decode cX7_readsRules 34 = .ok (.ifCond .ne 10, 3) := by decide +kernel
theorem dX7_readsRules_37 : decode cX7_readsRules 37 = .ok (.aload_n 0, 1) := by decide +kernel
theorem dX7_readsRules_38 : decode cX7_readsRules 38 = .ok (.getfield 84, 3) := by decide +kernel
theorem dX7_readsRules_41 : decode cX7_readsRules 41 = .ok (.goto 4, 3) := by decide +kernel
theorem dX7_readsRules_44 : decode cX7_readsRules 44 = .ok (.iconst 1, 1) := by decide +kernel
theorem dX7_readsRules_45 : decode cX7_readsRules 45 = .ok (.iload_n 3, 1) := by decide +kernel
theorem dX7_readsRules_46 : decode cX7_readsRules 46 = .ok (.invokevirtual 101, 3) := by decide +kernel
theorem dX7_readsRules_49 : decode cX7_readsRules 49 = .ok (.istore 4, 2) := by decide +kernel
theorem dX7_readsRules_51 : decode cX7_readsRules 51 = .ok (.aload_n 0, 1) := by decide +kernel
theorem dX7_readsRules_52 : decode cX7_readsRules 52 = .ok (.getfield 19, 3) := by decide +kernel
theorem dX7_readsRules_55 : decode cX7_readsRules 55 = .ok (.iload_n 2, 1) := by decide +kernel
theorem dX7_readsRules_56 : decode cX7_readsRules 56 = .ok (.iconst 1, 1) := by decide +kernel
theorem dX7_readsRules_57 : decode cX7_readsRules 57 = .ok (.iadd, 1) := by decide +kernel
theorem dX7_readsRules_58 : decode cX7_readsRules 58 = .ok (.aload_n 0, 1) := by decide +kernel
theorem dX7_readsRules_59 : decode cX7_readsRules 59 = .ok (.getfield 84, 3) := by decide +kernel
theorem dX7_readsRules_62 : decode cX7_readsRules 62 = .ok (.iastore, 1) := by decide +kernel
theorem dX7_readsRules_63 : decode cX7_readsRules 63 = .ok (.iload 4, 2) := by decide +kernel
theorem dX7_readsRules_65 : decode cX7_readsRules 65 = .ok (.ireturn, 1) := by decide +kernel
theorem dX7_readsItem_0 : decode cX7_readsItem 0 = .ok (.iload_n 3, 1) := by decide +kernel
theorem dX7_readsItem_1 : decode cX7_readsItem 1 = .ok (.iload_n 1, 1) := by decide +kernel
theorem dX7_readsItem_2 : decode cX7_readsItem 2 = .ok (.bipush 110, 2) := by decide +kernel
theorem dX7_readsItem_4 : decode cX7_readsItem 4 = .ok (.if_icmp .ne 7, 3) := by decide +kernel
theorem dX7_readsItem_7 : decode cX7_readsItem 7 = .ok (.iconst 1, 1) := by decide +kernel
theorem dX7_readsItem_8 : decode cX7_readsItem 8 = .ok (.goto 4, 3) := by decide +kernel
theorem dX7_readsItem_11 : decode cX7_readsItem 11 = .ok (.iconst 0, 1) := by decide +kernel
theorem dX7_readsItem_12 : decode cX7_readsItem 12 = .ok (.if_icmp .eq 5, 3) := by decide +kernel
theorem dX7_readsItem_15 : decode cX7_readsItem 15 = .ok (.iconst 0, 1) := by decide +kernel
theorem dX7_readsItem_16 : decode cX7_readsItem 16 = .ok (.ireturn, 1) := by decide +kernel
theorem dX7_readsItem_17 : decode cX7_readsItem 17 = .ok (.iload_n 1, 1) := by decide +kernel
theorem dX7_readsItem_18 : decode cX7_readsItem 18 = .ok (.tableswitch 176 104 122 #[120, 176, 176, 176, 126, 176, 90, 176, 176, 176, 176, 176, 141, 176, 176, 132, 176, 176, 150], 90) := by decide +kernel
theorem dX7_readsItem_108 : decode cX7_readsItem 108 = .ok (.aload_n 0, 1) := by decide +kernel
theorem dX7_readsItem_109 : decode cX7_readsItem 109 = .ok (.iload_n 2, 1) := by decide +kernel
theorem dX7_readsItem_110 : decode cX7_readsItem 110 = .ok (.iconst 2, 1) := by decide +kernel
theorem dX7_readsItem_111 : decode cX7_readsItem 111 = .ok (.bipush 6, 2) := by decide +kernel
theorem dX7_readsItem_113 : decode cX7_readsItem 113 = .ok (.invokevirtual 98, 3) := by decide +kernel
theorem dX7_readsItem_116 : decode cX7_readsItem 116 = .ok (.istore 4, 2) := by decide +kernel
theorem dX7_readsItem_118 : decode cX7_readsItem 118 = .ok (.aload_n 0, 1) := by decide +kernel
theorem dX7_readsItem_119 : decode cX7_readsItem 119 = .ok (.iload 4, 2) := by decide +kernel
theorem dX7_readsItem_121 : decode cX7_readsItem 121 = .ok (.ifCond .eq 10, 3) := by decide +kernel
theorem dX7_readsItem_124 : decode cX7_readsItem 124 = .ok (.aload_n 0, 1) := by decide +kernel
theorem dX7_readsItem_125 : decode cX7_readsItem 125 = .ok (.getfield 84, 3) := by decide +kernel
theorem dX7_readsItem_128 : decode cX7_readsItem 128 = .ok (.goto 4, 3) := by decide +kernel
theorem dX7_readsItem_131 : decode cX7_readsItem 131 = .ok (.iconst 0, 1) := by decide +kernel
theorem dX7_readsItem_132 : decode cX7_readsItem 132 = .ok (.putfield 37, 3) := by decide +kernel
theorem dX7_readsItem_135 : decode cX7_readsItem 135 = .ok (.iload 4, 2) := by decide +kernel
theorem dX7_readsItem_137 : decode cX7_readsItem 137 = .ok (.ireturn, 1) := by decide +kernel
theorem dX7_readsItem_138 : decode cX7_readsItem 138 = .ok (.aload_n 0, 1) := by decide +kernel
theorem dX7_readsItem_139 : decode cX7_readsItem 139 = .ok (.iload_n 2, 1) := by decide +kernel
theorem dX7_readsItem_140 : decode cX7_readsItem 140 = .ok (.invokevirtual 108, 3) := by decide +kernel
theorem dX7_readsItem_143 : decode cX7_readsItem 143 = .ok (.ireturn, 1) := by decide +kernel
theorem dX7_readsItem_144 : decode cX7_readsItem 144 = .ok (.aload_n 0, 1) := by decide +kernel
theorem dX7_readsItem_145 : decode cX7_readsItem 145 = .ok (.iload_n 2, 1) := by decide +kernel
theorem dX7_readsItem_146 : decode cX7_readsItem 146 = .ok (.invokevirtual 112, 3) := by decide +kernel
theorem dX7_readsItem_149 : decode cX7_readsItem 149 = .ok (.ireturn, 1) := by decide +kernel
theorem dX7_readsItem_150 : decode cX7_readsItem 150 = .ok (.aload_n 0, 1) := by decide +kernel
theorem dX7_readsItem_151 : decode cX7_readsItem 151 = .ok (.iload_n 2, 1) := by decide +kernel
theorem dX7_readsItem_152 : decode cX7_readsItem 152 = .ok (.iconst 0, 1) := by decide +kernel
theorem dX7_readsItem_153 : decode cX7_readsItem 153 = .ok (.bipush 64, 2) := by decide +kernel
theorem dX7_readsItem_155 : decode cX7_readsItem 155 = .ok (.invokevirtual 115, 3) := by decide +kernel
theorem dX7_readsItem_158 : decode cX7_readsItem 158 = .ok (.ireturn, 1) := by decide +kernel
theorem dX7_readsItem_159 : decode cX7_readsItem 159 = .ok (.aload_n 0, 1) := by decide +kernel
theorem dX7_readsItem_160 : decode cX7_readsItem 160 = .ok (.iload_n 2, 1) := by decide +kernel
theorem dX7_readsItem_161 : decode cX7_readsItem 161 = .ok (.iconst 2, 1) := by decide +kernel
theorem dX7_readsItem_162 : decode cX7_readsItem 162 = .ok (.bipush 7, 2) := by decide +kernel
theorem dX7_readsItem_164 : decode cX7_readsItem 164 = .ok (.invokevirtual 115, 3) := by decide +kernel
theorem dX7_readsItem_167 : decode cX7_readsItem 167 = .ok (.ireturn, 1) := by decide +kernel
theorem dX7_readsItem_168 : decode cX7_readsItem 168 = .ok (.aload_n 0, 1) := by decide +kernel
theorem dX7_readsItem_169 : decode cX7_readsItem 169 = .ok (.iload_n 2, 1) := by decide +kernel
theorem dX7_readsItem_170 : decode cX7_readsItem 170 = .ok (.iconst 0, 1) := by decide +kernel
theorem dX7_readsItem_171 : decode cX7_readsItem 171 = .ok (.sipush 9999, 3) := by decide +kernel
theorem dX7_readsItem_174 : decode cX7_readsItem 174 = .ok (.invokevirtual 98, 3) := by decide +kernel
theorem dX7_readsItem_177 : decode cX7_readsItem 177 = .ok (.istore 5, 2) := by decide +kernel
theorem dX7_readsItem_179 : decode cX7_readsItem 179 = .ok (.aload_n 0, 1) := by decide +kernel
theorem dX7_readsItem_180 : decode cX7_readsItem 180 = .ok (.getfield 13, 3) := by decide +kernel
theorem dX7_readsItem_183 : decode cX7_readsItem 183 = .ok (.sipush 1308, 3) := by decide +kernel
theorem dX7_readsItem_186 : decode cX7_readsItem 186 = .ok (.aload_n 0, 1) := by decide +kernel
theorem dX7_readsItem_187 : decode cX7_readsItem 187 = .ok (.getfield 84, 3) := by decide +kernel
theorem dX7_readsItem_190 : decode cX7_readsItem 190 = .ok (.iastore, 1) := by decide +kernel
theorem dX7_readsItem_191 : decode cX7_readsItem 191 = .ok (.iload 5, 2) := by decide +kernel
theorem dX7_readsItem_193 : decode cX7_readsItem 193 = .ok (.ireturn, 1) := by decide +kernel
theorem dX7_readsItem_194 : decode cX7_readsItem 194 = .ok (.iconst 0, 1) := by decide +kernel
theorem dX7_readsItem_195 : decode cX7_readsItem 195 = .ok (.ireturn, 1) := by decide +kernel
theorem dX7_reads_0 : decode cX7_reads 0 = .ok (.aload_n 0, 1) := by decide +kernel
theorem dX7_reads_1 : decode cX7_reads 1 = .ok (.invokevirtual 34, 3) := by decide +kernel
theorem dX7_reads_4 : decode cX7_reads 4 = .ok (.iconst 0, 1) := by decide +kernel
theorem dX7_reads_5 : decode cX7_reads 5 = .ok (.istore_n 1, 1) := by decide +kernel
theorem dX7_reads_6 : decode cX7_reads 6 = .ok (.iload_n 1, 1) := by decide +kernel
theorem dX7_reads_7 : decode cX7_reads 7 = .ok (.aload_n 0, 1) := by decide +kernel
theorem dX7_reads_8 : decode cX7_reads 8 = .ok (.getfield 81, 3) := by decide +kernel
theorem dX7_reads_11 : decode cX7_reads 11 = .ok (.if_icmp .ge 53, 3) := by decide +kernel
theorem dX7_reads_14 : decode cX7_reads 14 = .ok (.aload_n 0, 1) := by decide +kernel
theorem dX7_reads_15 : decode cX7_reads 15 = .ok (.aload_n 0, 1) := by decide +kernel
theorem dX7_reads_16 : decode cX7_reads 16 = .ok (.getfield 7, 3) := by decide +kernel
theorem dX7_reads_19 : decode cX7_reads 19 = .ok (.iload_n 1, 1) := by decide +kernel
theorem dX7_reads_20 : decode cX7_reads 20 = .ok (.iaload, 1) := by decide +kernel
theorem dX7_reads_21 : decode cX7_reads 21 = .ok (.iload_n 1, 1) := by decide +kernel
theorem dX7_reads_22 : decode cX7_reads 22 = .ok (.iconst 1, 1) := by decide +kernel
theorem dX7_reads_23 : decode cX7_reads 23 = .ok (.iadd, 1) := by decide +kernel
theorem dX7_reads_24 : decode cX7_reads 24 = .ok (.iload_n 1, 1) := by decide +kernel
theorem dX7_reads_25 : decode cX7_reads 25 = .ok (.ifCond .ne 7, 3) := by decide +kernel
theorem dX7_reads_28 : decode cX7_reads 28 = .ok (.iconst 1, 1) := by decide +kernel
theorem dX7_reads_29 : decode cX7_reads 29 = .ok (.goto 4, 3) := by decide +kernel
theorem dX7_reads_32 : decode cX7_reads 32 = .ok (.iconst 0, 1) := by decide +kernel
theorem dX7_reads_33 : decode cX7_reads 33 = .ok (.invokevirtual 118, 3) := by decide +kernel
theorem dX7_reads_36 : decode cX7_reads 36 = .ok (.ifCond .eq 16, 3) := by decide +kernel
theorem dX7_reads_39 : decode cX7_reads 39 = .ok (.aload_n 0, 1) := by decide +kernel
theorem dX7_reads_40 : decode cX7_reads 40 = .ok (.aload_n 0, 1) := by decide +kernel
theorem dX7_reads_41 : decode cX7_reads 41 = .ok (.getfield 87, 3) := by decide +kernel
theorem dX7_reads_44 : decode cX7_reads 44 = .ok (.invokevirtual 90, 3) := by decide +kernel
theorem dX7_reads_47 : decode cX7_reads 47 = .ok (.bipush 59, 2) := by decide +kernel
theorem dX7_reads_49 : decode cX7_reads 49 = .ok (.if_icmp .eq 5, 3) := by decide +kernel
theorem dX7_reads_52 : decode cX7_reads 52 = .ok (.iload_n 1, 1) := by decide +kernel
theorem dX7_reads_53 : decode cX7_reads 53 = .ok (.ireturn, 1) := by decide +kernel
theorem dX7_reads_54 : decode cX7_reads 54 = .ok (.aload_n 0, 1) := by decide +kernel
theorem dX7_reads_55 : decode cX7_reads 55 = .ok (.getfield 87, 3) := by decide +kernel
theorem dX7_reads_58 : decode cX7_reads 58 = .ok (.iconst 1, 1) := by decide +kernel
theorem dX7_reads_59 : decode cX7_reads 59 = .ok (.iadd, 1) := by decide +kernel
theorem dX7_reads_60 : decode cX7_reads 60 = .ok (.istore_n 1, 1) := by decide +kernel
theorem dX7_reads_61 : decode cX7_reads 61 = .ok (.goto (-55), 3) := by decide +kernel
theorem dX7_reads_64 : decode cX7_reads 64 = .ok (.bipush (-4), 2) := by decide +kernel
theorem dX7_reads_66 : decode cX7_reads 66 = .ok (.ireturn, 1) := by decide +kernel
theorem dX7_write_0 : decode cX7_write 0 = .ok (.iload_n 1, 1) := by decide +kernel
theorem dX7_write_1 : decode cX7_write 1 = .ok (.bipush 32, 2) := by decide +kernel
theorem dX7_write_3 : decode cX7_write 3 = .ok (.if_icmp .lt 9, 3) := by decide +kernel
theorem dX7_write_6 : decode cX7_write 6 = .ok (.iload_n 1, 1) := by decide +kernel
theorem dX7_write_7 : decode cX7_write 7 = .ok (.bipush 126, 2) := by decide +kernel
theorem dX7_write_9 : decode cX7_write 9 = .ok (.if_icmp .le 5, 3) := by decide +kernel
theorem dX7_write_12 : decode cX7_write 12 = .ok (.iconst (-1), 1) := by decide +kernel
theorem dX7_write_13 : decode cX7_write 13 = .ok (.ireturn, 1) := by decide +kernel
theorem dX7_write_14 : decode cX7_write 14 = .ok (.aload_n 0, 1) := by decide +kernel
theorem dX7_write_15 : decode cX7_write 15 = .ok (.getfield 81, 3) := by decide +kernel
theorem dX7_write_18 : decode cX7_write 18 = .ok (.sipush 200, 3) := by decide +kernel
theorem dX7_write_21 : decode cX7_write 21 = .ok (.if_icmp .ne 6, 3) := by decide +kernel
theorem dX7_write_24 : decode cX7_write 24 = .ok (.bipush (-3), 2) := by decide +kernel
theorem dX7_write_26 : decode cX7_write 26 = .ok (.ireturn, 1) := by decide +kernel
theorem dX7_write_27 : decode cX7_write 27 = .ok (.aload_n 0, 1) := by decide +kernel
theorem dX7_write_28 : decode cX7_write 28 = .ok (.getfield 7, 3) := by decide +kernel
theorem dX7_write_31 : decode cX7_write 31 = .ok (.aload_n 0, 1) := by decide +kernel
theorem dX7_write_32 : decode cX7_write 32 = .ok (.getfield 81, 3) := by decide +kernel
theorem dX7_write_35 : decode cX7_write 35 = .ok (.iload_n 1, 1) := by decide +kernel
theorem dX7_write_36 : decode cX7_write 36 = .ok (.iastore, 1) := by decide +kernel
theorem dX7_write_37 : decode cX7_write 37 = .ok (.aload_n 0, 1) := by decide +kernel
theorem dX7_write_38 : decode cX7_write 38 = .ok (.dup, 1) := by decide +kernel
theorem dX7_write_39 : decode cX7_write 39 = .ok (.getfield 81, 3) := by decide +kernel
theorem dX7_write_42 : decode cX7_write 42 = .ok (.iconst 1, 1) := by decide +kernel
theorem dX7_write_43 : decode cX7_write 43 = .ok (.iadd, 1) := by decide +kernel
theorem dX7_write_44 : decode cX7_write 44 = .ok (.putfield 81, 3) := by decide +kernel
theorem dX7_write_47 : decode cX7_write 47 = .ok (.aload_n 0, 1) := by decide +kernel
theorem dX7_write_48 : decode cX7_write 48 = .ok (.getfield 81, 3) := by decide +kernel
theorem dX7_write_51 : decode cX7_write 51 = .ok (.ireturn, 1) := by decide +kernel
theorem dX7_wipe_0 : decode cX7_wipe 0 = .ok (.aload_n 0, 1) := by decide +kernel
theorem dX7_wipe_1 : decode cX7_wipe 1 = .ok (.getfield 81, 3) := by decide +kernel
theorem dX7_wipe_4 : decode cX7_wipe 4 = .ok (.istore_n 1, 1) := by decide +kernel
theorem dX7_wipe_5 : decode cX7_wipe 5 = .ok (.aload_n 0, 1) := by decide +kernel
theorem dX7_wipe_6 : decode cX7_wipe 6 = .ok (.iconst 0, 1) := by decide +kernel
theorem dX7_wipe_7 : decode cX7_wipe 7 = .ok (.putfield 81, 3) := by decide +kernel
theorem dX7_wipe_10 : decode cX7_wipe 10 = .ok (.iload_n 1, 1) := by decide +kernel
theorem dX7_wipe_11 : decode cX7_wipe 11 = .ok (.ireturn, 1) := by decide +kernel
theorem dX7_fault_0 : decode cX7_fault 0 = .ok (.aload_n 0, 1) := by decide +kernel
theorem dX7_fault_1 : decode cX7_fault 1 = .ok (.invokevirtual 122, 3) := by decide +kernel
theorem dX7_fault_4 : decode cX7_fault 4 = .ok (.ireturn, 1) := by decide +kernel
theorem dX7_lay_0 : decode cX7_lay 0 = .ok (.aload_n 0, 1) := by decide +kernel
theorem dX7_lay_1 : decode cX7_lay 1 = .ok (.invokevirtual 122, 3) := by decide +kernel
theorem dX7_lay_4 : decode cX7_lay 4 = .ok (.bipush (-4), 2) := by decide +kernel
theorem dX7_lay_6 : decode cX7_lay 6 = .ok (.if_icmp .ne 10, 3) := by decide +kernel
theorem dX7_lay_9 : decode cX7_lay 9 = .ok (.aload_n 0, 1) := by decide +kernel
theorem dX7_lay_10 : decode cX7_lay 10 = .ok (.getfield 37, 3) := by decide +kernel
theorem dX7_lay_13 : decode cX7_lay 13 = .ok (.ifCond .ne 6, 3) := by decide +kernel
theorem dX7_lay_16 : decode cX7_lay 16 = .ok (.bipush (-2), 2) := by decide +kernel
theorem dX7_lay_18 : decode cX7_lay 18 = .ok (.ireturn, 1) := by decide +kernel
theorem dX7_lay_19 : decode cX7_lay 19 = .ok (.aload_n 0, 1) := by decide +kernel
theorem dX7_lay_20 : decode cX7_lay 20 = .ok (.invokevirtual 49, 3) := by decide +kernel
theorem dX7_lay_23 : decode cX7_lay 23 = .ok (.aload_n 0, 1) := by decide +kernel
theorem dX7_lay_24 : decode cX7_lay 24 = .ok (.getfield 56, 3) := by decide +kernel
theorem dX7_lay_27 : decode cX7_lay 27 = .ok (.ireturn, 1) := by decide +kernel
theorem dX7_drawn_0 : decode cX7_drawn 0 = .ok (.ldc2_w 126, 3) := by decide +kernel
theorem dX7_drawn_3 : decode cX7_drawn 3 = .ok (.aload_n 0, 1) := by decide +kernel
theorem dX7_drawn_4 : decode cX7_drawn 4 = .ok (.getfield 13, 3) := by decide +kernel
theorem dX7_drawn_7 : decode cX7_drawn 7 = .ok (.sipush 440, 3) := by decide +kernel
theorem dX7_drawn_10 : decode cX7_drawn 10 = .ok (.iload_n 1, 1) := by decide +kernel
theorem dX7_drawn_11 : decode cX7_drawn 11 = .ok (.imul, 1) := by decide +kernel
theorem dX7_drawn_12 : decode cX7_drawn 12 = .ok (.sipush 428, 3) := by decide +kernel
theorem dX7_drawn_15 : decode cX7_drawn 15 = .ok (.iadd, 1) := by decide +kernel
theorem dX7_drawn_16 : decode cX7_drawn 16 = .ok (.iaload, 1) := by decide +kernel
theorem dX7_drawn_17 : decode cX7_drawn 17 = .ok (.i2l, 1) := by decide +kernel
theorem dX7_drawn_18 : decode cX7_drawn 18 = .ok (.lmul, 1) := by decide +kernel
theorem dX7_drawn_19 : decode cX7_drawn 19 = .ok (.ldc2_w 128, 3) := by decide +kernel
theorem dX7_drawn_22 : decode cX7_drawn 22 = .ok (.iload_n 2, 1) := by decide +kernel
theorem dX7_drawn_23 : decode cX7_drawn 23 = .ok (.i2l, 1) := by decide +kernel
theorem dX7_drawn_24 : decode cX7_drawn 24 = .ok (.lmul, 1) := by decide +kernel
theorem dX7_drawn_25 : decode cX7_drawn 25 = .ok (.ladd, 1) := by decide +kernel
theorem dX7_drawn_26 : decode cX7_drawn 26 = .ok (.ldc2_w 130, 3) := by decide +kernel
theorem dX7_drawn_29 : decode cX7_drawn 29 = .ok (.iload_n 3, 1) := by decide +kernel
theorem dX7_drawn_30 : decode cX7_drawn 30 = .ok (.i2l, 1) := by decide +kernel
theorem dX7_drawn_31 : decode cX7_drawn 31 = .ok (.lmul, 1) := by decide +kernel
theorem dX7_drawn_32 : decode cX7_drawn 32 = .ok (.ladd, 1) := by decide +kernel
theorem dX7_drawn_33 : decode cX7_drawn 33 = .ok (.lconst 1, 1) := by decide +kernel
theorem dX7_drawn_34 : decode cX7_drawn 34 = .ok (.ladd, 1) := by decide +kernel
theorem dX7_drawn_35 : decode cX7_drawn 35 = .ok (.lstore 4, 2) := by decide +kernel
theorem dX7_drawn_37 : decode cX7_drawn 37 = .ok (.lload 4, 2) := by decide +kernel
theorem dX7_drawn_39 : decode cX7_drawn 39 = .ok (.lload 4, 2) := by decide +kernel
theorem dX7_drawn_41 : decode cX7_drawn 41 = .ok (.lmul, 1) := by decide +kernel
theorem dX7_drawn_42 : decode cX7_drawn 42 = .ok (.ldc2_w 132, 3) := by decide +kernel
theorem dX7_drawn_45 : decode cX7_drawn 45 = .ok (.lrem, 1) := by decide +kernel
theorem dX7_drawn_46 : decode cX7_drawn 46 = .ok (.l2i, 1) := by decide +kernel
theorem dX7_drawn_47 : decode cX7_drawn 47 = .ok (.ireturn, 1) := by decide +kernel
theorem dX7_waits_0 : decode cX7_waits 0 = .ok (.iload_n 1, 1) := by decide +kernel
theorem dX7_waits_1 : decode cX7_waits 1 = .ok (.iload_n 2, 1) := by decide +kernel
theorem dX7_waits_2 : decode cX7_waits 2 = .ok (.invokestatic 52, 3) := by decide +kernel
theorem dX7_waits_5 : decode cX7_waits 5 = .ok (.istore_n 3, 1) := by decide +kernel
theorem dX7_waits_6 : decode cX7_waits 6 = .ok (.aload_n 0, 1) := by decide +kernel
theorem dX7_waits_7 : decode cX7_waits 7 = .ok (.getfield 13, 3) := by decide +kernel
theorem dX7_waits_10 : decode cX7_waits 10 = .ok (.iload_n 3, 1) := by decide +kernel
theorem dX7_waits_11 : decode cX7_waits 11 = .ok (.iconst 2, 1) := by decide +kernel
theorem dX7_waits_12 : decode cX7_waits 12 = .ok (.iadd, 1) := by decide +kernel
theorem dX7_waits_13 : decode cX7_waits 13 = .ok (.aload_n 0, 1) := by decide +kernel
theorem dX7_waits_14 : decode cX7_waits 14 = .ok (.iload_n 1, 1) := by decide +kernel
theorem dX7_waits_15 : decode cX7_waits 15 = .ok (.iload_n 2, 1) := by decide +kernel
theorem dX7_waits_16 : decode cX7_waits 16 = .ok (.aload_n 0, 1) := by decide +kernel
theorem dX7_waits_17 : decode cX7_waits 17 = .ok (.getfield 13, 3) := by decide +kernel
theorem dX7_waits_20 : decode cX7_waits 20 = .ok (.iload_n 3, 1) := by decide +kernel
theorem dX7_waits_21 : decode cX7_waits 21 = .ok (.bipush 7, 2) := by decide +kernel
theorem dX7_waits_23 : decode cX7_waits 23 = .ok (.iadd, 1) := by decide +kernel
theorem dX7_waits_24 : decode cX7_waits 24 = .ok (.iaload, 1) := by decide +kernel
theorem dX7_waits_25 : decode cX7_waits 25 = .ok (.invokevirtual 134, 3) := by decide +kernel
theorem dX7_waits_28 : decode cX7_waits 28 = .ok (.aload_n 0, 1) := by decide +kernel
theorem dX7_waits_29 : decode cX7_waits 29 = .ok (.getfield 13, 3) := by decide +kernel
theorem dX7_waits_32 : decode cX7_waits 32 = .ok (.iload_n 3, 1) := by decide +kernel
theorem dX7_waits_33 : decode cX7_waits 33 = .ok (.iconst 0, 1) := by decide +kernel
theorem dX7_waits_34 : decode cX7_waits 34 = .ok (.iadd, 1) := by decide +kernel
theorem dX7_waits_35 : decode cX7_waits 35 = .ok (.iaload, 1) := by decide +kernel
theorem dX7_waits_36 : decode cX7_waits 36 = .ok (.irem, 1) := by decide +kernel
theorem dX7_waits_37 : decode cX7_waits 37 = .ok (.iastore, 1) := by decide +kernel
theorem dX7_waits_38 : decode cX7_waits 38 = .ok (.aload_n 0, 1) := by decide +kernel
theorem dX7_waits_39 : decode cX7_waits 39 = .ok (.getfield 13, 3) := by decide +kernel
theorem dX7_waits_42 : decode cX7_waits 42 = .ok (.iload_n 3, 1) := by decide +kernel
theorem dX7_waits_43 : decode cX7_waits 43 = .ok (.bipush 7, 2) := by decide +kernel
theorem dX7_waits_45 : decode cX7_waits 45 = .ok (.iadd, 1) := by decide +kernel
theorem dX7_waits_46 : decode cX7_waits 46 = .ok (.dup2, 1) := by decide +kernel
theorem dX7_waits_47 : decode cX7_waits 47 = .ok (.iaload, 1) := by decide +kernel
theorem dX7_waits_48 : decode cX7_waits 48 = .ok (.iconst 1, 1) := by decide +kernel
theorem dX7_waits_49 : decode cX7_waits 49 = .ok (.iadd, 1) := by decide +kernel
theorem dX7_waits_50 : decode cX7_waits 50 = .ok (.iastore, 1) := by decide +kernel
theorem dX7_waits_51 : decode cX7_waits 51 = .ok (.return_, 1) := by decide +kernel
theorem dX7_comes_0 : decode cX7_comes 0 = .ok (.iload_n 1, 1) := by decide +kernel
theorem dX7_comes_1 : decode cX7_comes 1 = .ok (.iload_n 2, 1) := by decide +kernel
theorem dX7_comes_2 : decode cX7_comes 2 = .ok (.invokestatic 52, 3) := by decide +kernel
theorem dX7_comes_5 : decode cX7_comes 5 = .ok (.istore_n 3, 1) := by decide +kernel
theorem dX7_comes_6 : decode cX7_comes 6 = .ok (.aload_n 0, 1) := by decide +kernel
theorem dX7_comes_7 : decode cX7_comes 7 = .ok (.getfield 13, 3) := by decide +kernel
theorem dX7_comes_10 : decode cX7_comes 10 = .ok (.iload_n 3, 1) := by decide +kernel
theorem dX7_comes_11 : decode cX7_comes 11 = .ok (.bipush 28, 2) := by decide +kernel
theorem dX7_comes_13 : decode cX7_comes 13 = .ok (.iadd, 1) := by decide +kernel
theorem dX7_comes_14 : decode cX7_comes 14 = .ok (.iconst 0, 1) := by decide +kernel
theorem dX7_comes_15 : decode cX7_comes 15 = .ok (.iastore, 1) := by decide +kernel
theorem dX7_comes_16 : decode cX7_comes 16 = .ok (.aload_n 0, 1) := by decide +kernel
theorem dX7_comes_17 : decode cX7_comes 17 = .ok (.getfield 13, 3) := by decide +kernel
theorem dX7_comes_20 : decode cX7_comes 20 = .ok (.iload_n 3, 1) := by decide +kernel
theorem dX7_comes_21 : decode cX7_comes 21 = .ok (.bipush 29, 2) := by decide +kernel
theorem dX7_comes_23 : decode cX7_comes 23 = .ok (.iadd, 1) := by decide +kernel
theorem dX7_comes_24 : decode cX7_comes 24 = .ok (.iconst 0, 1) := by decide +kernel
theorem dX7_comes_25 : decode cX7_comes 25 = .ok (.iastore, 1) := by decide +kernel
theorem dX7_comes_26 : decode cX7_comes 26 = .ok (.aload_n 0, 1) := by decide +kernel
theorem dX7_comes_27 : decode cX7_comes 27 = .ok (.getfield 13, 3) := by decide +kernel
theorem dX7_comes_30 : decode cX7_comes 30 = .ok (.iload_n 3, 1) := by decide +kernel
theorem dX7_comes_31 : decode cX7_comes 31 = .ok (.bipush 26, 2) := by decide +kernel
theorem dX7_comes_33 : decode cX7_comes 33 = .ok (.iadd, 1) := by decide +kernel
theorem dX7_comes_34 : decode cX7_comes 34 = .ok (.iconst 0, 1) := by decide +kernel
theorem dX7_comes_35 : decode cX7_comes 35 = .ok (.iastore, 1) := by decide +kernel
theorem dX7_comes_36 : decode cX7_comes 36 = .ok (.aload_n 0, 1) := by decide +kernel
theorem dX7_comes_37 : decode cX7_comes 37 = .ok (.getfield 13, 3) := by decide +kernel
theorem dX7_comes_40 : decode cX7_comes 40 = .ok (.iload_n 3, 1) := by decide +kernel
theorem dX7_comes_41 : decode cX7_comes 41 = .ok (.bipush 8, 2) := by decide +kernel
theorem dX7_comes_43 : decode cX7_comes 43 = .ok (.iadd, 1) := by decide +kernel
theorem dX7_comes_44 : decode cX7_comes 44 = .ok (.iaload, 1) := by decide +kernel
theorem dX7_comes_45 : decode cX7_comes 45 = .ok (.ifCond .le 9, 3) := by decide +kernel
theorem dX7_comes_48 : decode cX7_comes 48 = .ok (.aload_n 0, 1) := by decide +kernel
theorem dX7_comes_49 : decode cX7_comes 49 = .ok (.iload_n 1, 1) := by decide +kernel
theorem dX7_comes_50 : decode cX7_comes 50 = .ok (.iload_n 2, 1) := by decide +kernel
theorem dX7_comes_51 : decode cX7_comes 51 = .ok (.invokevirtual 138, 3) := by decide +kernel
theorem dX7_comes_54 : decode cX7_comes 54 = .ok (.return_, 1) := by decide +kernel
theorem dX7_overs_0 : decode cX7_overs 0 = .ok (.iload_n 1, 1) := by decide +kernel
theorem dX7_overs_1 : decode cX7_overs 1 = .ok (.iload_n 2, 1) := by decide +kernel
theorem dX7_overs_2 : decode cX7_overs 2 = .ok (.invokestatic 52, 3) := by decide +kernel
theorem dX7_overs_5 : decode cX7_overs 5 = .ok (.istore_n 3, 1) := by decide +kernel
theorem dX7_overs_6 : decode cX7_overs 6 = .ok (.aload_n 0, 1) := by decide +kernel
theorem dX7_overs_7 : decode cX7_overs 7 = .ok (.getfield 13, 3) := by decide +kernel
theorem dX7_overs_10 : decode cX7_overs 10 = .ok (.iload_n 3, 1) := by decide +kernel
theorem dX7_overs_11 : decode cX7_overs 11 = .ok (.bipush 8, 2) := by decide +kernel
theorem dX7_overs_13 : decode cX7_overs 13 = .ok (.iadd, 1) := by decide +kernel
theorem dX7_overs_14 : decode cX7_overs 14 = .ok (.dup2, 1) := by decide +kernel
theorem dX7_overs_15 : decode cX7_overs 15 = .ok (.iaload, 1) := by decide +kernel
theorem dX7_overs_16 : decode cX7_overs 16 = .ok (.iconst 1, 1) := by decide +kernel
theorem dX7_overs_17 : decode cX7_overs 17 = .ok (.isub, 1) := by decide +kernel
theorem dX7_overs_18 : decode cX7_overs 18 = .ok (.iastore, 1) := by decide +kernel
theorem dX7_overs_19 : decode cX7_overs 19 = .ok (.iconst 0, 1) := by decide +kernel
theorem dX7_overs_20 : decode cX7_overs 20 = .ok (.istore 4, 2) := by decide +kernel
theorem dX7_overs_22 : decode cX7_overs 22 = .ok (.iload 4, 2) := by decide +kernel
theorem dX7_overs_24 : decode cX7_overs 24 = .ok (.iconst 2, 1) := by decide +kernel
theorem dX7_overs_25 : decode cX7_overs 25 = .ok (.aload_n 0, 1) := by decide +kernel
theorem dX7_overs_26 : decode cX7_overs 26 = .ok (.getfield 13, 3) := by decide +kernel
theorem dX7_overs_29 : decode cX7_overs 29 = .ok (.iload_n 3, 1) := by decide +kernel
theorem dX7_overs_30 : decode cX7_overs 30 = .ok (.bipush 8, 2) := by decide +kernel
theorem dX7_overs_32 : decode cX7_overs 32 = .ok (.iadd, 1) := by decide +kernel
theorem dX7_overs_33 : decode cX7_overs 33 = .ok (.iaload, 1) := by decide +kernel
theorem dX7_overs_34 : decode cX7_overs 34 = .ok (.imul, 1) := by decide +kernel
theorem dX7_overs_35 : decode cX7_overs 35 = .ok (.if_icmp .ge 35, 3) := by decide +kernel
theorem dX7_overs_38 : decode cX7_overs 38 = .ok (.aload_n 0, 1) := by decide +kernel
theorem dX7_overs_39 : decode cX7_overs 39 = .ok (.getfield 13, 3) := by decide +kernel
theorem dX7_overs_42 : decode cX7_overs 42 = .ok (.iload_n 3, 1) := by decide +kernel
theorem dX7_overs_43 : decode cX7_overs 43 = .ok (.bipush 9, 2) := by decide +kernel
theorem dX7_overs_45 : decode cX7_overs 45 = .ok (.iadd, 1) := by decide +kernel
theorem dX7_overs_46 : decode cX7_overs 46 = .ok (.iload 4, 2) := by decide +kernel
theorem dX7_overs_48 : decode cX7_overs 48 = .ok (.iadd, 1) := by decide +kernel
theorem dX7_overs_49 : decode cX7_overs 49 = .ok (.aload_n 0, 1) := by decide +kernel
theorem dX7_overs_50 : decode cX7_overs 50 = .ok (.getfield 13, 3) := by decide +kernel
theorem dX7_overs_53 : decode cX7_overs 53 = .ok (.iload_n 3, 1) := by decide +kernel
theorem dX7_overs_54 : decode cX7_overs 54 = .ok (.bipush 9, 2) := by decide +kernel
theorem dX7_overs_56 : decode cX7_overs 56 = .ok (.iadd, 1) := by decide +kernel
theorem dX7_overs_57 : decode cX7_overs 57 = .ok (.iload 4, 2) := by decide +kernel
theorem dX7_overs_59 : decode cX7_overs 59 = .ok (.iadd, 1) := by decide +kernel
theorem dX7_overs_60 : decode cX7_overs 60 = .ok (.iconst 2, 1) := by decide +kernel
theorem dX7_overs_61 : decode cX7_overs 61 = .ok (.iadd, 1) := by decide +kernel
theorem dX7_overs_62 : decode cX7_overs 62 = .ok (.iaload, 1) := by decide +kernel
theorem dX7_overs_63 : decode cX7_overs 63 = .ok (.iastore, 1) := by decide +kernel
theorem dX7_overs_64 : decode cX7_overs 64 = .ok (.iinc 4 1, 3) := by decide +kernel
theorem dX7_overs_67 : decode cX7_overs 67 = .ok (.goto (-45), 3) := by decide +kernel
theorem dX7_overs_70 : decode cX7_overs 70 = .ok (.aload_n 0, 1) := by decide +kernel
theorem dX7_overs_71 : decode cX7_overs 71 = .ok (.getfield 13, 3) := by decide +kernel
theorem dX7_overs_74 : decode cX7_overs 74 = .ok (.iload_n 3, 1) := by decide +kernel
theorem dX7_overs_75 : decode cX7_overs 75 = .ok (.iconst 1, 1) := by decide +kernel
theorem dX7_overs_76 : decode cX7_overs 76 = .ok (.iadd, 1) := by decide +kernel
theorem dX7_overs_77 : decode cX7_overs 77 = .ok (.iconst 0, 1) := by decide +kernel
theorem dX7_overs_78 : decode cX7_overs 78 = .ok (.iastore, 1) := by decide +kernel
theorem dX7_overs_79 : decode cX7_overs 79 = .ok (.aload_n 0, 1) := by decide +kernel
theorem dX7_overs_80 : decode cX7_overs 80 = .ok (.getfield 13, 3) := by decide +kernel
theorem dX7_overs_83 : decode cX7_overs 83 = .ok (.iload_n 3, 1) := by decide +kernel
theorem dX7_overs_84 : decode cX7_overs 84 = .ok (.iconst 0, 1) := by decide +kernel
theorem dX7_overs_85 : decode cX7_overs 85 = .ok (.iadd, 1) := by decide +kernel
theorem dX7_overs_86 : decode cX7_overs 86 = .ok (.aload_n 0, 1) := by decide +kernel
theorem dX7_overs_87 : decode cX7_overs 87 = .ok (.getfield 59, 3) := by decide +kernel
theorem dX7_overs_90 : decode cX7_overs 90 = .ok (.iastore, 1) := by decide +kernel
theorem dX7_overs_91 : decode cX7_overs 91 = .ok (.aload_n 0, 1) := by decide +kernel
theorem dX7_overs_92 : decode cX7_overs 92 = .ok (.iload_n 1, 1) := by decide +kernel
theorem dX7_overs_93 : decode cX7_overs 93 = .ok (.iload_n 2, 1) := by decide +kernel
theorem dX7_overs_94 : decode cX7_overs 94 = .ok (.invokevirtual 78, 3) := by decide +kernel
theorem dX7_overs_97 : decode cX7_overs 97 = .ok (.return_, 1) := by decide +kernel
theorem dX7_fails_0 : decode cX7_fails 0 = .ok (.iload_n 1, 1) := by decide +kernel
theorem dX7_fails_1 : decode cX7_fails 1 = .ok (.iload_n 2, 1) := by decide +kernel
theorem dX7_fails_2 : decode cX7_fails 2 = .ok (.invokestatic 52, 3) := by decide +kernel
theorem dX7_fails_5 : decode cX7_fails 5 = .ok (.istore_n 3, 1) := by decide +kernel
theorem dX7_fails_6 : decode cX7_fails 6 = .ok (.aload_n 0, 1) := by decide +kernel
theorem dX7_fails_7 : decode cX7_fails 7 = .ok (.getfield 13, 3) := by decide +kernel
theorem dX7_fails_10 : decode cX7_fails 10 = .ok (.iload_n 3, 1) := by decide +kernel
theorem dX7_fails_11 : decode cX7_fails 11 = .ok (.iconst 1, 1) := by decide +kernel
theorem dX7_fails_12 : decode cX7_fails 12 = .ok (.iadd, 1) := by decide +kernel
theorem dX7_fails_13 : decode cX7_fails 13 = .ok (.dup2, 1) := by decide +kernel
theorem dX7_fails_14 : decode cX7_fails 14 = .ok (.iaload, 1) := by decide +kernel
theorem dX7_fails_15 : decode cX7_fails 15 = .ok (.iconst 1, 1) := by decide +kernel
theorem dX7_fails_16 : decode cX7_fails 16 = .ok (.iadd, 1) := by decide +kernel
theorem dX7_fails_17 : decode cX7_fails 17 = .ok (.iastore, 1) := by decide +kernel
theorem dX7_fails_18 : decode cX7_fails 18 = .ok (.aload_n 0, 1) := by decide +kernel
theorem dX7_fails_19 : decode cX7_fails 19 = .ok (.getfield 13, 3) := by decide +kernel
theorem dX7_fails_22 : decode cX7_fails 22 = .ok (.iload_n 3, 1) := by decide +kernel
theorem dX7_fails_23 : decode cX7_fails 23 = .ok (.iconst 1, 1) := by decide +kernel
theorem dX7_fails_24 : decode cX7_fails 24 = .ok (.iadd, 1) := by decide +kernel
theorem dX7_fails_25 : decode cX7_fails 25 = .ok (.iaload, 1) := by decide +kernel
theorem dX7_fails_26 : decode cX7_fails 26 = .ok (.aload_n 0, 1) := by decide +kernel
theorem dX7_fails_27 : decode cX7_fails 27 = .ok (.getfield 68, 3) := by decide +kernel
theorem dX7_fails_30 : decode cX7_fails 30 = .ok (.if_icmp .lt 23, 3) := by decide +kernel
theorem dX7_fails_33 : decode cX7_fails 33 = .ok (.aload_n 0, 1) := by decide +kernel
theorem dX7_fails_34 : decode cX7_fails 34 = .ok (.getfield 13, 3) := by decide +kernel
theorem dX7_fails_37 : decode cX7_fails 37 = .ok (.iload_n 3, 1) := by decide +kernel
theorem dX7_fails_38 : decode cX7_fails 38 = .ok (.bipush 6, 2) := by decide +kernel
theorem dX7_fails_40 : decode cX7_fails 40 = .ok (.iadd, 1) := by decide +kernel
theorem dX7_fails_41 : decode cX7_fails 41 = .ok (.dup2, 1) := by decide +kernel
theorem dX7_fails_42 : decode cX7_fails 42 = .ok (.iaload, 1) := by decide +kernel
theorem dX7_fails_43 : decode cX7_fails 43 = .ok (.iconst 1, 1) := by decide +kernel
theorem dX7_fails_44 : decode cX7_fails 44 = .ok (.iadd, 1) := by decide +kernel
theorem dX7_fails_45 : decode cX7_fails 45 = .ok (.iastore, 1) := by decide +kernel
theorem dX7_fails_46 : decode cX7_fails 46 = .ok (.aload_n 0, 1) := by decide +kernel
theorem dX7_fails_47 : decode cX7_fails 47 = .ok (.iload_n 1, 1) := by decide +kernel
theorem dX7_fails_48 : decode cX7_fails 48 = .ok (.iload_n 2, 1) := by decide +kernel
theorem dX7_fails_49 : decode cX7_fails 49 = .ok (.invokevirtual 141, 3) := by decide +kernel
theorem dX7_fails_52 : decode cX7_fails 52 = .ok (.return_, 1) := by decide +kernel
theorem dX7_fails_53 : decode cX7_fails 53 = .ok (.iconst 2, 1) := by decide +kernel
theorem dX7_fails_54 : decode cX7_fails 54 = .ok (.aload_n 0, 1) := by decide +kernel
theorem dX7_fails_55 : decode cX7_fails 55 = .ok (.getfield 13, 3) := by decide +kernel
theorem dX7_fails_58 : decode cX7_fails 58 = .ok (.iload_n 3, 1) := by decide +kernel
theorem dX7_fails_59 : decode cX7_fails 59 = .ok (.iconst 0, 1) := by decide +kernel
theorem dX7_fails_60 : decode cX7_fails 60 = .ok (.iadd, 1) := by decide +kernel
theorem dX7_fails_61 : decode cX7_fails 61 = .ok (.iaload, 1) := by decide +kernel
theorem dX7_fails_62 : decode cX7_fails 62 = .ok (.imul, 1) := by decide +kernel
theorem dX7_fails_63 : decode cX7_fails 63 = .ok (.istore 4, 2) := by decide +kernel
theorem dX7_fails_65 : decode cX7_fails 65 = .ok (.aload_n 0, 1) := by decide +kernel
theorem dX7_fails_66 : decode cX7_fails 66 = .ok (.getfield 13, 3) := by decide +kernel
theorem dX7_fails_69 : decode cX7_fails 69 = .ok (.iload_n 3, 1) := by decide +kernel
theorem dX7_fails_70 : decode cX7_fails 70 = .ok (.iconst 0, 1) := by decide +kernel
theorem dX7_fails_71 : decode cX7_fails 71 = .ok (.iadd, 1) := by decide +kernel
theorem dX7_fails_72 : decode cX7_fails 72 = .ok (.iload 4, 2) := by decide +kernel
theorem dX7_fails_74 : decode cX7_fails 74 = .ok (.aload_n 0, 1) := by decide +kernel
theorem dX7_fails_75 : decode cX7_fails 75 = .ok (.getfield 62, 3) := by decide +kernel
theorem dX7_fails_78 : decode cX7_fails 78 = .ok (.if_icmp .le 10, 3) := by decide +kernel
theorem dX7_fails_81 : decode cX7_fails 81 = .ok (.aload_n 0, 1) := by decide +kernel
theorem dX7_fails_82 : decode cX7_fails 82 = .ok (.getfield 62, 3) := by decide +kernel
theorem dX7_fails_85 : decode cX7_fails 85 = .ok (.goto 5, 3) := by decide +kernel
theorem dX7_fails_88 : decode cX7_fails 88 = .ok (.iload 4, 2) := by decide +kernel
theorem dX7_fails_90 : decode cX7_fails 90 = .ok (.iastore, 1) := by decide +kernel
theorem dX7_fails_91 : decode cX7_fails 91 = .ok (.aload_n 0, 1) := by decide +kernel
theorem dX7_fails_92 : decode cX7_fails 92 = .ok (.iload_n 1, 1) := by decide +kernel
theorem dX7_fails_93 : decode cX7_fails 93 = .ok (.iload_n 2, 1) := by decide +kernel
theorem dX7_fails_94 : decode cX7_fails 94 = .ok (.invokevirtual 78, 3) := by decide +kernel
theorem dX7_fails_97 : decode cX7_fails 97 = .ok (.return_, 1) := by decide +kernel
theorem dX7_sent_0 : decode cX7_sent 0 = .ok (.iload_n 1, 1) := by decide +kernel
theorem dX7_sent_1 : decode cX7_sent 1 = .ok (.iload_n 2, 1) := by decide +kernel
theorem dX7_sent_2 : decode cX7_sent 2 = .ok (.invokestatic 52, 3) := by decide +kernel
theorem dX7_sent_5 : decode cX7_sent 5 = .ok (.istore_n 3, 1) := by decide +kernel
theorem dX7_sent_6 : decode cX7_sent 6 = .ok (.aload_n 0, 1) := by decide +kernel
theorem dX7_sent_7 : decode cX7_sent 7 = .ok (.getfield 13, 3) := by decide +kernel
theorem dX7_sent_10 : decode cX7_sent 10 = .ok (.iload_n 3, 1) := by decide +kernel
theorem dX7_sent_11 : decode cX7_sent 11 = .ok (.iconst 5, 1) := by decide +kernel
theorem dX7_sent_12 : decode cX7_sent 12 = .ok (.iadd, 1) := by decide +kernel
theorem dX7_sent_13 : decode cX7_sent 13 = .ok (.dup2, 1) := by decide +kernel
theorem dX7_sent_14 : decode cX7_sent 14 = .ok (.iaload, 1) := by decide +kernel
theorem dX7_sent_15 : decode cX7_sent 15 = .ok (.iconst 1, 1) := by decide +kernel
theorem dX7_sent_16 : decode cX7_sent 16 = .ok (.iadd, 1) := by decide +kernel
theorem dX7_sent_17 : decode cX7_sent 17 = .ok (.iastore, 1) := by decide +kernel
theorem dX7_sent_18 : decode cX7_sent 18 = .ok (.aload_n 0, 1) := by decide +kernel
theorem dX7_sent_19 : decode cX7_sent 19 = .ok (.getfield 13, 3) := by decide +kernel
theorem dX7_sent_22 : decode cX7_sent 22 = .ok (.sipush 440, 3) := by decide +kernel
theorem dX7_sent_25 : decode cX7_sent 25 = .ok (.iload_n 1, 1) := by decide +kernel
theorem dX7_sent_26 : decode cX7_sent 26 = .ok (.imul, 1) := by decide +kernel
theorem dX7_sent_27 : decode cX7_sent 27 = .ok (.sipush 429, 3) := by decide +kernel
theorem dX7_sent_30 : decode cX7_sent 30 = .ok (.iadd, 1) := by decide +kernel
theorem dX7_sent_31 : decode cX7_sent 31 = .ok (.aload_n 0, 1) := by decide +kernel
theorem dX7_sent_32 : decode cX7_sent 32 = .ok (.getfield 13, 3) := by decide +kernel
theorem dX7_sent_35 : decode cX7_sent 35 = .ok (.iload_n 3, 1) := by decide +kernel
theorem dX7_sent_36 : decode cX7_sent 36 = .ok (.iconst 1, 1) := by decide +kernel
theorem dX7_sent_37 : decode cX7_sent 37 = .ok (.iadd, 1) := by decide +kernel
theorem dX7_sent_38 : decode cX7_sent 38 = .ok (.iaload, 1) := by decide +kernel
theorem dX7_sent_39 : decode cX7_sent 39 = .ok (.iadd, 1) := by decide +kernel
