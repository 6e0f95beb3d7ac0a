theorem dX6_write_14 : decode cX6_write 14 = .ok (.aload_n 0, 1) := by decide +kernel
theorem dX6_write_15 : decode cX6_write 15 = .ok (.getfield 48, 3) := by decide +kernel
theorem dX6_write_18 : decode cX6_write 18 = .ok (.sipush 200, 3) := by decide +kernel
theorem dX6_write_21 : decode cX6_write 21 = .ok (.if_icmp .lt 6, 3) := by decide +kernel
theorem dX6_write_24 : decode cX6_write 24 = .ok (.bipush (-3), 2) := by decide +kernel
theorem dX6_write_26 : decode cX6_write 26 = .ok (.ireturn, 1) := by decide +kernel
theorem dX6_write_27 : decode cX6_write 27 = .ok (.aload_n 0, 1) := by decide +kernel
theorem dX6_write_28 : decode cX6_write 28 = .ok (.getfield 9, 3) := by decide +kernel
theorem dX6_write_31 : decode cX6_write 31 = .ok (.aload_n 0, 1) := by decide +kernel
theorem dX6_write_32 : decode cX6_write 32 = .ok (.getfield 48, 3) := by decide +kernel
theorem dX6_write_35 : decode cX6_write 35 = .ok (.iload_n 1, 1) := by decide +kernel
theorem dX6_write_36 : decode cX6_write 36 = .ok (.i2c, 1) := by decide +kernel
theorem dX6_write_37 : decode cX6_write 37 = .ok (.castore, 1) := by decide +kernel
theorem dX6_write_38 : decode cX6_write 38 = .ok (.aload_n 0, 1) := by decide +kernel
theorem dX6_write_39 : decode cX6_write 39 = .ok (.dup, 1) := by decide +kernel
theorem dX6_write_40 : decode cX6_write 40 = .ok (.getfield 48, 3) := by decide +kernel
theorem dX6_write_43 : decode cX6_write 43 = .ok (.iconst 1, 1) := by decide +kernel
theorem dX6_write_44 : decode cX6_write 44 = .ok (.iadd, 1) := by decide +kernel
theorem dX6_write_45 : decode cX6_write 45 = .ok (.putfield 48, 3) := by decide +kernel
theorem dX6_write_48 : decode cX6_write 48 = .ok (.aload_n 0, 1) := by decide +kernel
theorem dX6_write_49 : decode cX6_write 49 = .ok (.getfield 48, 3) := by decide +kernel
theorem dX6_write_52 : decode cX6_write 52 = .ok (.ireturn, 1) := by decide +kernel
theorem dX6_wipe_0 : decode cX6_wipe 0 = .ok (.aload_n 0, 1) := by decide +kernel
theorem dX6_wipe_1 : decode cX6_wipe 1 = .ok (.getfield 48, 3) := by decide +kernel
theorem dX6_wipe_4 : decode cX6_wipe 4 = .ok (.istore_n 1, 1) := by decide +kernel
theorem dX6_wipe_5 : decode cX6_wipe 5 = .ok (.aload_n 0, 1) := by decide +kernel
theorem dX6_wipe_6 : decode cX6_wipe 6 = .ok (.iconst 0, 1) := by decide +kernel
theorem dX6_wipe_7 : decode cX6_wipe 7 = .ok (.putfield 48, 3) := by decide +kernel
theorem dX6_wipe_10 : decode cX6_wipe 10 = .ok (.iload_n 1, 1) := by decide +kernel
theorem dX6_wipe_11 : decode cX6_wipe 11 = .ok (.ireturn, 1) := by decide +kernel
theorem dX6_fault_0 : decode cX6_fault 0 = .ok (.aload_n 0, 1) := by decide +kernel
theorem dX6_fault_1 : decode cX6_fault 1 = .ok (.getfield 28, 3) := by decide +kernel
theorem dX6_fault_4 : decode cX6_fault 4 = .ok (.aload_n 0, 1) := by decide +kernel
theorem dX6_fault_5 : decode cX6_fault 5 = .ok (.getfield 48, 3) := by decide +kernel
theorem dX6_fault_8 : decode cX6_fault 8 = .ok (.invokevirtual 56, 3) := by decide +kernel
theorem dX6_fault_11 : decode cX6_fault 11 = .ok (.ireturn, 1) := by decide +kernel
theorem dX6_lay_0 : decode cX6_lay 0 = .ok (.aload_n 0, 1) := by decide +kernel
theorem dX6_lay_1 : decode cX6_lay 1 = .ok (.invokevirtual 52, 3) := by decide +kernel
theorem dX6_lay_4 : decode cX6_lay 4 = .ok (.ifCond .eq 13, 3) := by decide +kernel
theorem dX6_lay_7 : decode cX6_lay 7 = .ok (.aload_n 0, 1) := by decide +kernel
theorem dX6_lay_8 : decode cX6_lay 8 = .ok (.getfield 16, 3) := by decide +kernel
theorem dX6_lay_11 : decode cX6_lay 11 = .ok (.getfield 60, 3) := by decide +kernel
theorem dX6_lay_14 : decode cX6_lay 14 = .ok (.goto 5, 3) := by decide +kernel
theorem dX6_lay_17 : decode cX6_lay 17 = .ok (.bipush (-2), 2) := by decide +kernel
theorem dX6_lay_19 : decode cX6_lay 19 = .ok (.ireturn, 1) := by decide +kernel
theorem dX6_letter_0 : decode cX6_letter 0 = .ok (.aload_n 0, 1) := by decide +kernel
theorem dX6_letter_1 : decode cX6_letter 1 = .ok (.iload_n 1, 1) := by decide +kernel
theorem dX6_letter_2 : decode cX6_letter 2 = .ok (.iload_n 2, 1) := by decide +kernel
theorem dX6_letter_3 : decode cX6_letter 3 = .ok (.invokevirtual 63, 3) := by decide +kernel
theorem dX6_letter_6 : decode cX6_letter 6 = .ok (.ifCond .eq 14, 3) := by decide +kernel
theorem dX6_letter_9 : decode cX6_letter 9 = .ok (.iload_n 3, 1) := by decide +kernel
theorem dX6_letter_10 : decode cX6_letter 10 = .ok (.iconst 1, 1) := by decide +kernel
theorem dX6_letter_11 : decode cX6_letter 11 = .ok (.if_icmp .lt 9, 3) := by decide +kernel
theorem dX6_letter_14 : decode cX6_letter 14 = .ok (.iload_n 3, 1) := by decide +kernel
theorem dX6_letter_15 : decode cX6_letter 15 = .ok (.bipush 9, 2) := by decide +kernel
theorem dX6_letter_17 : decode cX6_letter 17 = .ok (.if_icmp .le 5, 3) := by decide +kernel
theorem dX6_letter_20 : decode cX6_letter 20 = .ok (.iconst (-1), 1) := by decide +kernel
theorem dX6_letter_21 : decode cX6_letter 21 = .ok (.ireturn, 1) := by decide +kernel
theorem dX6_letter_22 : decode cX6_letter 22 = .ok (.aload_n 0, 1) := by decide +kernel
theorem dX6_letter_23 : decode cX6_letter 23 = .ok (.getfield 16, 3) := by decide +kernel
theorem dX6_letter_26 : decode cX6_letter 26 = .ok (.iload_n 1, 1) := by decide +kernel
theorem dX6_letter_27 : decode cX6_letter 27 = .ok (.iload_n 2, 1) := by decide +kernel
theorem dX6_letter_28 : decode cX6_letter 28 = .ok (.invokevirtual 67, 3) := by decide +kernel
theorem dX6_letter_31 : decode cX6_letter 31 = .ok (.ifCond .ne 6, 3) := by decide +kernel
theorem dX6_letter_34 : decode cX6_letter 34 = .ok (.bipush (-2), 2) := by decide +kernel
theorem dX6_letter_36 : decode cX6_letter 36 = .ok (.ireturn, 1) := by decide +kernel
theorem dX6_letter_37 : decode cX6_letter 37 = .ok (.aload_n 0, 1) := by decide +kernel
theorem dX6_letter_38 : decode cX6_letter 38 = .ok (.getfield 16, 3) := by decide +kernel
theorem dX6_letter_41 : decode cX6_letter 41 = .ok (.getfield 70, 3) := by decide +kernel
theorem dX6_letter_44 : decode cX6_letter 44 = .ok (.iload_n 1, 1) := by decide +kernel
theorem dX6_letter_45 : decode cX6_letter 45 = .ok (.aaload, 1) := by decide +kernel
theorem dX6_letter_46 : decode cX6_letter 46 = .ok (.astore 4, 2) := by decide +kernel
theorem dX6_letter_48 : decode cX6_letter 48 = .ok (.aload 4, 2) := by decide +kernel
theorem dX6_letter_50 : decode cX6_letter 50 = .ok (.getfield 74, 3) := by decide +kernel
theorem dX6_letter_53 : decode cX6_letter 53 = .ok (.getfield 80, 3) := by decide +kernel
theorem dX6_letter_56 : decode cX6_letter 56 = .ok (.bipush 6, 2) := by decide +kernel
theorem dX6_letter_58 : decode cX6_letter 58 = .ok (.if_icmp .lt 6, 3) := by decide +kernel
theorem dX6_letter_61 : decode cX6_letter 61 = .ok (.bipush (-3), 2) := by decide +kernel
theorem dX6_letter_63 : decode cX6_letter 63 = .ok (.ireturn, 1) := by decide +kernel
theorem dX6_letter_64 : decode cX6_letter 64 = .ok (.aload_n 0, 1) := by decide +kernel
theorem dX6_letter_65 : decode cX6_letter 65 = .ok (.invokevirtual 85, 3) := by decide +kernel
theorem dX6_letter_68 : decode cX6_letter 68 = .ok (.aload 4, 2) := by decide +kernel
theorem dX6_letter_70 : decode cX6_letter 70 = .ok (.getfield 74, 3) := by decide +kernel
theorem dX6_letter_73 : decode cX6_letter 73 = .ok (.iload_n 2, 1) := by decide +kernel
theorem dX6_letter_74 : decode cX6_letter 74 = .ok (.iload_n 3, 1) := by decide +kernel
theorem dX6_letter_75 : decode cX6_letter 75 = .ok (.invokevirtual 88, 3) := by decide +kernel
theorem dX6_letter_78 : decode cX6_letter 78 = .ok (.aload 4, 2) := by decide +kernel
theorem dX6_letter_80 : decode cX6_letter 80 = .ok (.getfield 74, 3) := by decide +kernel
theorem dX6_letter_83 : decode cX6_letter 83 = .ok (.getfield 80, 3) := by decide +kernel
theorem dX6_letter_86 : decode cX6_letter 86 = .ok (.iconst 1, 1) := by decide +kernel
theorem dX6_letter_87 : decode cX6_letter 87 = .ok (.if_icmp .ne 11, 3) := by decide +kernel
theorem dX6_letter_90 : decode cX6_letter 90 = .ok (.aload_n 0, 1) := by decide +kernel
theorem dX6_letter_91 : decode cX6_letter 91 = .ok (.getfield 16, 3) := by decide +kernel
theorem dX6_letter_94 : decode cX6_letter 94 = .ok (.iload_n 1, 1) := by decide +kernel
theorem dX6_letter_95 : decode cX6_letter 95 = .ok (.invokevirtual 92, 3) := by decide +kernel
theorem dX6_letter_98 : decode cX6_letter 98 = .ok (.aload 4, 2) := by decide +kernel
theorem dX6_letter_100 : decode cX6_letter 100 = .ok (.getfield 74, 3) := by decide +kernel
theorem dX6_letter_103 : decode cX6_letter 103 = .ok (.getfield 80, 3) := by decide +kernel
theorem dX6_letter_106 : decode cX6_letter 106 = .ok (.ireturn, 1) := by decide +kernel
theorem dX6_hear_0 : decode cX6_hear 0 = .ok (.aload_n 0, 1) := by decide +kernel
theorem dX6_hear_1 : decode cX6_hear 1 = .ok (.iload_n 1, 1) := by decide +kernel
theorem dX6_hear_2 : decode cX6_hear 2 = .ok (.iload_n 2, 1) := by decide +kernel
theorem dX6_hear_3 : decode cX6_hear 3 = .ok (.invokevirtual 63, 3) := by decide +kernel
theorem dX6_hear_6 : decode cX6_hear 6 = .ok (.ifCond .eq 12, 3) := by decide +kernel
theorem dX6_hear_9 : decode cX6_hear 9 = .ok (.iload_n 3, 1) := by decide +kernel
theorem dX6_hear_10 : decode cX6_hear 10 = .ok (.ifCond .lt 8, 3) := by decide +kernel
theorem dX6_hear_13 : decode cX6_hear 13 = .ok (.iload_n 3, 1) := by decide +kernel
theorem dX6_hear_14 : decode cX6_hear 14 = .ok (.iconst 1, 1) := by decide +kernel
theorem dX6_hear_15 : decode cX6_hear 15 = .ok (.if_icmp .le 5, 3) := by decide +kernel
theorem dX6_hear_18 : decode cX6_hear 18 = .ok (.iconst (-1), 1) := by decide +kernel
theorem dX6_hear_19 : decode cX6_hear 19 = .ok (.ireturn, 1) := by decide +kernel
theorem dX6_hear_20 : decode cX6_hear 20 = .ok (.iload_n 3, 1) := by decide +kernel
theorem dX6_hear_21 : decode cX6_hear 21 = .ok (.iconst 1, 1) := by decide +kernel
theorem dX6_hear_22 : decode cX6_hear 22 = .ok (.if_icmp .ne 7, 3) := by decide +kernel
theorem dX6_hear_25 : decode cX6_hear 25 = .ok (.iconst 1, 1) := by decide +kernel
theorem dX6_hear_26 : decode cX6_hear 26 = .ok (.goto 4, 3) := by decide +kernel
theorem dX6_hear_29 : decode cX6_hear 29 = .ok (.iconst 0, 1) := by decide +kernel
theorem dX6_hear_30 : decode cX6_hear 30 = .ok (.istore 4, 2) := by decide +kernel
theorem dX6_hear_32 : decode cX6_hear 32 = .ok (.aload_n 0, 1) := by decide +kernel
theorem dX6_hear_33 : decode cX6_hear 33 = .ok (.getfield 16, 3) := by decide +kernel
theorem dX6_hear_36 : decode cX6_hear 36 = .ok (.iload_n 1, 1) := by decide +kernel
theorem dX6_hear_37 : decode cX6_hear 37 = .ok (.iload_n 2, 1) := by decide +kernel
theorem dX6_hear_38 : decode cX6_hear 38 = .ok (.invokevirtual 67, 3) := by decide +kernel
theorem dX6_hear_41 : decode cX6_hear 41 = .ok (.iload 4, 2) := by decide +kernel
theorem dX6_hear_43 : decode cX6_hear 43 = .ok (.if_icmp .ne 6, 3) := by decide +kernel
theorem dX6_hear_46 : decode cX6_hear 46 = .ok (.bipush (-2), 2) := by decide +kernel
theorem dX6_hear_48 : decode cX6_hear 48 = .ok (.ireturn, 1) := by decide +kernel
theorem dX6_hear_49 : decode cX6_hear 49 = .ok (.iload 4, 2) := by decide +kernel
theorem dX6_hear_51 : decode cX6_hear 51 = .ok (.ifCond .ne 44, 3) := by decide +kernel
theorem dX6_hear_54 : decode cX6_hear 54 = .ok (.aload_n 0, 1) := by decide +kernel
theorem dX6_hear_55 : decode cX6_hear 55 = .ok (.getfield 16, 3) := by decide +kernel
theorem dX6_hear_58 : decode cX6_hear 58 = .ok (.getfield 70, 3) := by decide +kernel
theorem dX6_hear_61 : decode cX6_hear 61 = .ok (.iload_n 1, 1) := by decide +kernel
theorem dX6_hear_62 : decode cX6_hear 62 = .ok (.aaload, 1) := by decide +kernel
theorem dX6_hear_63 : decode cX6_hear 63 = .ok (.getfield 74, 3) := by decide +kernel
theorem dX6_hear_66 : decode cX6_hear 66 = .ok (.iload_n 2, 1) := by decide +kernel
theorem dX6_hear_67 : decode cX6_hear 67 = .ok (.invokevirtual 96, 3) := by decide +kernel
theorem dX6_hear_70 : decode cX6_hear 70 = .ok (.ifCond .ne 22, 3) := by decide +kernel
theorem dX6_hear_73 : decode cX6_hear 73 = .ok (.aload_n 0, 1) := by decide +kernel
theorem dX6_hear_74 : decode cX6_hear 74 = .ok (.getfield 16, 3) := by decide +kernel
theorem dX6_hear_77 : decode cX6_hear 77 = .ok (.getfield 70, 3) := by decide +kernel
theorem dX6_hear_80 : decode cX6_hear 80 = .ok (.iload_n 2, 1) := by decide +kernel
theorem dX6_hear_81 : decode cX6_hear 81 = .ok (.aaload, 1) := by decide +kernel
theorem dX6_hear_82 : decode cX6_hear 82 = .ok (.getfield 74, 3) := by decide +kernel
theorem dX6_hear_85 : decode cX6_hear 85 = .ok (.iload_n 1, 1) := by decide +kernel
theorem dX6_hear_86 : decode cX6_hear 86 = .ok (.invokevirtual 96, 3) := by decide +kernel
theorem dX6_hear_89 : decode cX6_hear 89 = .ok (.ifCond .eq 6, 3) := by decide +kernel
theorem dX6_hear_92 : decode cX6_hear 92 = .ok (.bipush (-2), 2) := by decide +kernel
theorem dX6_hear_94 : decode cX6_hear 94 = .ok (.ireturn, 1) := by decide +kernel
theorem dX6_hear_95 : decode cX6_hear 95 = .ok (.aload_n 0, 1) := by decide +kernel
theorem dX6_hear_96 : decode cX6_hear 96 = .ok (.invokevirtual 85, 3) := by decide +kernel
theorem dX6_hear_99 : decode cX6_hear 99 = .ok (.aload_n 0, 1) := by decide +kernel
theorem dX6_hear_100 : decode cX6_hear 100 = .ok (.getfield 16, 3) := by decide +kernel
theorem dX6_hear_103 : decode cX6_hear 103 = .ok (.iload_n 1, 1) := by decide +kernel
theorem dX6_hear_104 : decode cX6_hear 104 = .ok (.iload_n 2, 1) := by decide +kernel
theorem dX6_hear_105 : decode cX6_hear 105 = .ok (.iload 4, 2) := by decide +kernel
theorem dX6_hear_107 : decode cX6_hear 107 = .ok (.invokevirtual 100, 3) := by decide +kernel
theorem dX6_hear_110 : decode cX6_hear 110 = .ok (.aload_n 0, 1) := by decide +kernel
theorem dX6_hear_111 : decode cX6_hear 111 = .ok (.getfield 16, 3) := by decide +kernel
theorem dX6_hear_114 : decode cX6_hear 114 = .ok (.iconst 0, 1) := by decide +kernel
theorem dX6_hear_115 : decode cX6_hear 115 = .ok (.invokevirtual 104, 3) := by decide +kernel
theorem dX6_hear_118 : decode cX6_hear 118 = .ok (.ireturn, 1) := by decide +kernel
theorem dX6_draws_0 : decode cX6_draws 0 = .ok (.iload_n 1, 1) := by decide +kernel
theorem dX6_draws_1 : decode cX6_draws 1 = .ok (.ifCond .lt 10, 3) := by decide +kernel
theorem dX6_draws_4 : decode cX6_draws 4 = .ok (.iload_n 1, 1) := by decide +kernel
theorem dX6_draws_5 : decode cX6_draws 5 = .ok (.sipush 9999, 3) := by decide +kernel
theorem dX6_draws_8 : decode cX6_draws 8 = .ok (.if_icmp .le 5, 3) := by decide +kernel
theorem dX6_draws_11 : decode cX6_draws 11 = .ok (.iconst (-1), 1) := by decide +kernel
theorem dX6_draws_12 : decode cX6_draws 12 = .ok (.ireturn, 1) := by decide +kernel
theorem dX6_draws_13 : decode cX6_draws 13 = .ok (.iload_n 1, 1) := by decide +kernel
theorem dX6_draws_14 : decode cX6_draws 14 = .ok (.aload_n 0, 1) := by decide +kernel
theorem dX6_draws_15 : decode cX6_draws 15 = .ok (.getfield 16, 3) := by decide +kernel
theorem dX6_draws_18 : decode cX6_draws 18 = .ok (.getfield 107, 3) := by decide +kernel
theorem dX6_draws_21 : decode cX6_draws 21 = .ok (.if_icmp .ne 6, 3) := by decide +kernel
theorem dX6_draws_24 : decode cX6_draws 24 = .ok (.bipush (-2), 2) := by decide +kernel
theorem dX6_draws_26 : decode cX6_draws 26 = .ok (.ireturn, 1) := by decide +kernel
theorem dX6_draws_27 : decode cX6_draws 27 = .ok (.aload_n 0, 1) := by decide +kernel
theorem dX6_draws_28 : decode cX6_draws 28 = .ok (.invokevirtual 85, 3) := by decide +kernel
theorem dX6_draws_31 : decode cX6_draws 31 = .ok (.aload_n 0, 1) := by decide +kernel
theorem dX6_draws_32 : decode cX6_draws 32 = .ok (.getfield 16, 3) := by decide +kernel
theorem dX6_draws_35 : decode cX6_draws 35 = .ok (.getfield 107, 3) := by decide +kernel
theorem dX6_draws_38 : decode cX6_draws 38 = .ok (.istore_n 2, 1) := by decide +kernel
theorem dX6_draws_39 : decode cX6_draws 39 = .ok (.aload_n 0, 1) := by decide +kernel
theorem dX6_draws_40 : decode cX6_draws 40 = .ok (.getfield 16, 3) := by decide +kernel
theorem dX6_draws_43 : decode cX6_draws 43 = .ok (.iload_n 1, 1) := by decide +kernel
theorem dX6_draws_44 : decode cX6_draws 44 = .ok (.putfield 107, 3) := by decide +kernel
theorem dX6_draws_47 : decode cX6_draws 47 = .ok (.iload_n 2, 1) := by decide +kernel
theorem dX6_draws_48 : decode cX6_draws 48 = .ok (.ireturn, 1) := by decide +kernel
theorem dX6_slot_0 : decode cX6_slot 0 = .ok (.iload_n 1, 1) := by decide +kernel
theorem dX6_slot_1 : decode cX6_slot 1 = .ok (.iconst 1, 1) := by decide +kernel
theorem dX6_slot_2 : decode cX6_slot 2 = .ok (.if_icmp .lt 9, 3) := by decide +kernel
theorem dX6_slot_5 : decode cX6_slot 5 = .ok (.iload_n 1, 1) := by decide +kernel
theorem dX6_slot_6 : decode cX6_slot 6 = .ok (.bipush 99, 2) := by decide +kernel
theorem dX6_slot_8 : decode cX6_slot 8 = .ok (.if_icmp .le 5, 3) := by decide +kernel
theorem dX6_slot_11 : decode cX6_slot 11 = .ok (.iconst (-1), 1) := by decide +kernel
theorem dX6_slot_12 : decode cX6_slot 12 = .ok (.ireturn, 1) := by decide +kernel
theorem dX6_slot_13 : decode cX6_slot 13 = .ok (.aload_n 0, 1) := by decide +kernel
theorem dX6_slot_14 : decode cX6_slot 14 = .ok (.getfield 16, 3) := by decide +kernel
theorem dX6_slot_17 : decode cX6_slot 17 = .ok (.getfield 110, 3) := by decide +kernel
theorem dX6_slot_20 : decode cX6_slot 20 = .ok (.iload_n 1, 1) := by decide +kernel
theorem dX6_slot_21 : decode cX6_slot 21 = .ok (.iadd, 1) := by decide +kernel
theorem dX6_slot_22 : decode cX6_slot 22 = .ok (.sipush 9999, 3) := by decide +kernel
theorem dX6_slot_25 : decode cX6_slot 25 = .ok (.if_icmp .le 6, 3) := by decide +kernel
theorem dX6_slot_28 : decode cX6_slot 28 = .ok (.bipush (-2), 2) := by decide +kernel
theorem dX6_slot_30 : decode cX6_slot 30 = .ok (.ireturn, 1) := by decide +kernel
theorem dX6_slot_31 : decode cX6_slot 31 = .ok (.aload_n 0, 1) := by decide +kernel
theorem dX6_slot_32 : decode cX6_slot 32 = .ok (.invokevirtual 85, 3) := by decide +kernel
theorem dX6_slot_35 : decode cX6_slot 35 = .ok (.aload_n 0, 1) := by decide +kernel
theorem dX6_slot_36 : decode cX6_slot 36 = .ok (.getfield 16, 3) := by decide +kernel
theorem dX6_slot_39 : decode cX6_slot 39 = .ok (.iconst 1, 1) := by decide +kernel
theorem dX6_slot_40 : decode cX6_slot 40 = .ok (.invokevirtual 113, 3) := by decide +kernel
theorem dX6_slot_43 : decode cX6_slot 43 = .ok (.istore_n 2, 1) := by decide +kernel
theorem dX6_slot_44 : decode cX6_slot 44 = .ok (.aload_n 0, 1) := by decide +kernel
theorem dX6_slot_45 : decode cX6_slot 45 = .ok (.getfield 16, 3) := by decide +kernel
theorem dX6_slot_48 : decode cX6_slot 48 = .ok (.iload_n 1, 1) := by decide +kernel
theorem dX6_slot_49 : decode cX6_slot 49 = .ok (.invokevirtual 116, 3) := by decide +kernel
theorem dX6_slot_52 : decode cX6_slot 52 = .ok (.aload_n 0, 1) := by decide +kernel
theorem dX6_slot_53 : decode cX6_slot 53 = .ok (.getfield 16, 3) := by decide +kernel
theorem dX6_slot_56 : decode cX6_slot 56 = .ok (.iconst 1, 1) := by decide +kernel
theorem dX6_slot_57 : decode cX6_slot 57 = .ok (.invokevirtual 113, 3) := by decide +kernel
theorem dX6_slot_60 : decode cX6_slot 60 = .ok (.iload_n 2, 1) := by decide +kernel
theorem dX6_slot_61 : decode cX6_slot 61 = .ok (.isub, 1) := by decide +kernel
theorem dX6_slot_62 : decode cX6_slot 62 = .ok (.ireturn, 1) := by decide +kernel
theorem dX6_undo_0 : decode cX6_undo 0 = .ok (.aload_n 0, 1) := by decide +kernel
theorem dX6_undo_1 : decode cX6_undo 1 = .ok (.getfield 119, 3) := by decide +kernel
theorem dX6_undo_4 : decode cX6_undo 4 = .ok (.iconst 1, 1) := by decide +kernel
theorem dX6_undo_5 : decode cX6_undo 5 = .ok (.if_icmp .ge 6, 3) := by decide +kernel
theorem dX6_undo_8 : decode cX6_undo 8 = .ok (.bipush (-2), 2) := by decide +kernel
theorem dX6_undo_10 : decode cX6_undo 10 = .ok (.ireturn, 1) := by decide +kernel
theorem dX6_undo_11 : decode cX6_undo 11 = .ok (.aload_n 0, 1) := by decide +kernel
theorem dX6_undo_12 : decode cX6_undo 12 = .ok (.aload_n 0, 1) := by decide +kernel
theorem dX6_undo_13 : decode cX6_undo 13 = .ok (.getfield 122, 3) := by decide +kernel
theorem dX6_undo_16 : decode cX6_undo 16 = .ok (.ifCond .ne 7, 3) := by decide +kernel
theorem dX6_undo_19 : decode cX6_undo 19 = .ok (.iconst 3, 1) := by decide +kernel
theorem dX6_undo_20 : decode cX6_undo 20 = .ok (.goto 9, 3) := by decide +kernel
theorem dX6_undo_23 : decode cX6_undo 23 = .ok (.aload_n 0, 1) := by decide +kernel
theorem dX6_undo_24 : decode cX6_undo 24 = .ok (.getfield 122, 3) := by decide +kernel
theorem dX6_undo_27 : decode cX6_undo 27 = .ok (.iconst 1, 1) := by decide +kernel
theorem dX6_undo_28 : decode cX6_undo 28 = .ok (.isub, 1) := by decide +kernel
theorem dX6_undo_29 : decode cX6_undo 29 = .ok (.putfield 122, 3) := by decide +kernel
theorem dX6_undo_32 : decode cX6_undo 32 = .ok (.aload_n 0, 1) := by decide +kernel
theorem dX6_undo_33 : decode cX6_undo 33 = .ok (.dup, 1) := by decide +kernel
theorem dX6_undo_34 : decode cX6_undo 34 = .ok (.getfield 119, 3) := by decide +kernel
theorem dX6_undo_37 : decode cX6_undo 37 = .ok (.iconst 1, 1) := by decide +kernel
theorem dX6_undo_38 : decode cX6_undo 38 = .ok (.isub, 1) := by decide +kernel
theorem dX6_undo_39 : decode cX6_undo 39 = .ok (.putfield 119, 3) := by decide +kernel
theorem dX6_undo_42 : decode cX6_undo 42 = .ok (.aload_n 0, 1) := by decide +kernel
theorem dX6_undo_43 : decode cX6_undo 43 = .ok (.getfield 16, 3) := by decide +kernel
theorem dX6_undo_46 : decode cX6_undo 46 = .ok (.aload_n 0, 1) := by decide +kernel
theorem dX6_undo_47 : decode cX6_undo 47 = .ok (.getfield 32, 3) := by decide +kernel
theorem dX6_undo_50 : decode cX6_undo 50 = .ok (.aload_n 0, 1) := by decide +kernel
theorem dX6_undo_51 : decode cX6_undo 51 = .ok (.getfield 122, 3) := by decide +kernel
theorem dX6_undo_54 : decode cX6_undo 54 = .ok (.aaload, 1) := by decide +kernel
theorem dX6_undo_55 : decode cX6_undo 55 = .ok (.invokevirtual 125, 3) := by decide +kernel
theorem dX6_undo_58 : decode cX6_undo 58 = .ok (.aload_n 0, 1) := by decide +kernel
theorem dX6_undo_59 : decode cX6_undo 59 = .ok (.getfield 119, 3) := by decide +kernel
theorem dX6_undo_62 : decode cX6_undo 62 = .ok (.ireturn, 1) := by decide +kernel
theorem dX6_station_0 : decode cX6_station 0 = .ok (.aload_n 0, 1) := by decide +kernel
theorem dX6_station_1 : decode cX6_station 1 = .ok (.iload_n 1, 1) := by decide +kernel
theorem dX6_station_2 : decode cX6_station 2 = .ok (.invokevirtual 129, 3) := by decide +kernel
theorem dX6_station_5 : decode cX6_station 5 = .ok (.ifCond .ne 5, 3) := by decide +kernel
theorem dX6_station_8 : decode cX6_station 8 = .ok (.iconst (-1), 1) := by decide +kernel
theorem dX6_station_9 : decode cX6_station 9 = .ok (.ireturn, 1) := by decide +kernel
theorem dX6_station_10 : decode cX6_station 10 = .ok (.aload_n 0, 1) := by decide +kernel
theorem dX6_station_11 : decode cX6_station 11 = .ok (.getfield 16, 3) := by decide +kernel
theorem dX6_station_14 : decode cX6_station 14 = .ok (.getfield 70, 3) := by decide +kernel
theorem dX6_station_17 : decode cX6_station 17 = .ok (.iload_n 1, 1) := by decide +kernel
theorem dX6_station_18 : decode cX6_station 18 = .ok (.aaload, 1) := by decide +kernel
theorem dX6_station_19 : decode cX6_station 19 = .ok (.astore_n 3, 1) := by decide +kernel
theorem dX6_station_20 : decode cX6_station 20 = .ok (.iload_n 2, 1) := by decide +kernel
theorem dX6_station_21 : decode cX6_station 21 = .ok (.tableswitch 153 0 11 #[63, 71, 76, 81, 101, 106, 111, 116, 121, 126, 135, 140], 63) := by decide +kernel
theorem dX6_station_84 : decode cX6_station 84 = .ok (.aload_n 3, 1) := by decide +kernel
theorem dX6_station_85 : decode cX6_station 85 = .ok (.getfield 74, 3) := by decide +kernel
theorem dX6_station_88 : decode cX6_station 88 = .ok (.getfield 80, 3) := by decide +kernel
theorem dX6_station_91 : decode cX6_station 91 = .ok (.ireturn, 1) := by decide +kernel
theorem dX6_station_92 : decode cX6_station 92 = .ok (.aload_n 3, 1) := by decide +kernel
theorem dX6_station_93 : decode cX6_station 93 = .ok (.getfield 132, 3) := by decide +kernel
theorem dX6_station_96 : decode cX6_station 96 = .ok (.ireturn, 1) := by decide +kernel
theorem dX6_station_97 : decode cX6_station 97 = .ok (.aload_n 3, 1) := by decide +kernel
theorem dX6_station_98 : decode cX6_station 98 = .ok (.getfield 135, 3) := by decide +kernel
theorem dX6_station_101 : decode cX6_station 101 = .ok (.ireturn, 1) := by decide +kernel
theorem dX6_station_102 : decode cX6_station 102 = .ok (.aload_n 3, 1) := by decide +kernel
theorem dX6_station_103 : decode cX6_station 103 = .ok (.getfield 74, 3) := by decide +kernel
theorem dX6_station_106 : decode cX6_station 106 = .ok (.getfield 80, 3) := by decide +kernel
theorem dX6_station_109 : decode cX6_station 109 = .ok (.ifCond .ne 8, 3) := by decide +kernel
theorem dX6_station_112 : decode cX6_station 112 = .ok (.bipush (-4), 2) := by decide +kernel
theorem dX6_station_114 : decode cX6_station 114 = .ok (.goto 7, 3) := by decide +kernel
theorem dX6_station_117 : decode cX6_station 117 = .ok (.aload_n 3, 1) := by decide +kernel
theorem dX6_station_118 : decode cX6_station 118 = .ok (.getfield 138, 3) := by decide +kernel
theorem dX6_station_121 : decode cX6_station 121 = .ok (.ireturn, 1) := by decide +kernel
theorem dX6_station_122 : decode cX6_station 122 = .ok (.aload_n 3, 1) := by decide +kernel
theorem dX6_station_123 : decode cX6_station 123 = .ok (.getfield 141, 3) := by decide +kernel
theorem dX6_station_126 : decode cX6_station 126 = .ok (.ireturn, 1) := by decide +kernel
theorem dX6_station_127 : decode cX6_station 127 = .ok (.aload_n 3, 1) := by decide +kernel
theorem dX6_station_128 : decode cX6_station 128 = .ok (.getfield 144, 3) := by decide +kernel
theorem dX6_station_131 : decode cX6_station 131 = .ok (.ireturn, 1) := by decide +kernel
theorem dX6_station_132 : decode cX6_station 132 = .ok (.aload_n 3, 1) := by decide +kernel
theorem dX6_station_133 : decode cX6_station 133 = .ok (.getfield 147, 3) := by decide +kernel
theorem dX6_station_136 : decode cX6_station 136 = .ok (.ireturn, 1) := by decide +kernel
theorem dX6_station_137 : decode cX6_station 137 = .ok (.aload_n 3, 1) := by decide +kernel
theorem dX6_station_138 : decode cX6_station 138 = .ok (.getfield 150, 3) := by decide +kernel
theorem dX6_station_141 : decode cX6_station 141 = .ok (.ireturn, 1) := by decide +kernel
theorem dX6_station_142 : decode cX6_station 142 = .ok (.aload_n 3, 1) := by decide +kernel
theorem dX6_station_143 : decode cX6_station 143 = .ok (.getfield 153, 3) := by decide +kernel
theorem dX6_station_146 : decode cX6_station 146 = .ok (.ireturn, 1) := by decide +kernel
theorem dX6_station_147 : decode cX6_station 147 = .ok (.aload_n 0, 1) := by decide +kernel
theorem dX6_station_148 : decode cX6_station 148 = .ok (.getfield 16, 3) := by decide +kernel
theorem dX6_station_151 : decode cX6_station 151 = .ok (.aload_n 3, 1) := by decide +kernel
theorem dX6_station_152 : decode cX6_station 152 = .ok (.invokevirtual 156, 3) := by decide +kernel
theorem dX6_station_155 : decode cX6_station 155 = .ok (.ireturn, 1) := by decide +kernel
theorem dX6_station_156 : decode cX6_station 156 = .ok (.aload_n 3, 1) := by decide +kernel
theorem dX6_station_157 : decode cX6_station 157 = .ok (.getfield 160, 3) := by decide +kernel
theorem dX6_station_160 : decode cX6_station 160 = .ok (.ireturn, 1) := by decide +kernel
theorem dX6_station_161 : decode cX6_station 161 = .ok (.aload_n 3, 1) := by decide +kernel
theorem dX6_station_162 : decode cX6_station 162 = .ok (.getfield 162, 3) := by decide +kernel
theorem dX6_station_165 : decode cX6_station 165 = .ok (.ifCond .ne 7, 3) := by decide +kernel
theorem dX6_station_168 : decode cX6_station 168 = .ok (.iconst 0, 1) := by decide +kernel
theorem dX6_station_169 : decode cX6_station 169 = .ok (.goto 4, 3) := by decide +kernel
theorem dX6_station_172 : decode cX6_station 172 = .ok (.iconst 1, 1) := by decide +kernel
theorem dX6_station_173 : decode cX6_station 173 = .ok (.ireturn, 1) := by decide +kernel
theorem dX6_station_174 : decode cX6_station 174 = .ok (.iconst (-1), 1) := by decide +kernel
theorem dX6_station_175 : decode cX6_station 175 = .ok (.ireturn, 1) := by decide +kernel
theorem dX6_letterOf_0 : decode cX6_letterOf 0 = .ok (.aload_n 0, 1) := by decide +kernel
theorem dX6_letterOf_1 : decode cX6_letterOf 1 = .ok (.iload_n 1, 1) := by decide +kernel
theorem dX6_letterOf_2 : decode cX6_letterOf 2 = .ok (.invokevirtual 129, 3) := by decide +kernel
theorem dX6_letterOf_5 : decode cX6_letterOf 5 = .ok (.ifCond .eq 16, 3) := by decide +kernel
theorem dX6_letterOf_8 : decode cX6_letterOf 8 = .ok (.iload_n 2, 1) := by decide +kernel
theorem dX6_letterOf_9 : decode cX6_letterOf 9 = .ok (.ifCond .lt 12, 3) := by decide +kernel
theorem dX6_letterOf_12 : decode cX6_letterOf 12 = .ok (.iload_n 3, 1) := by decide +kernel
theorem dX6_letterOf_13 : decode cX6_letterOf 13 = .ok (.ifCond .lt 8, 3) := by decide +kernel
theorem dX6_letterOf_16 : decode cX6_letterOf 16 = .ok (.iload_n 3, 1) := by decide +kernel
theorem dX6_letterOf_17 : decode cX6_letterOf 17 = .ok (.iconst 3, 1) := by decide +kernel
theorem dX6_letterOf_18 : decode cX6_letterOf 18 = .ok (.if_icmp .le 5, 3) := by decide +kernel
theorem dX6_letterOf_21 : decode cX6_letterOf 21 = .ok (.iconst (-1), 1) := by decide +kernel
theorem dX6_letterOf_22 : decode cX6_letterOf 22 = .ok (.ireturn, 1) := by decide +kernel
theorem dX6_letterOf_23 : decode cX6_letterOf 23 = .ok (.aload_n 0, 1) := by decide +kernel
theorem dX6_letterOf_24 : decode cX6_letterOf 24 = .ok (.getfield 16, 3) := by decide +kernel
theorem dX6_letterOf_27 : decode cX6_letterOf 27 = .ok (.getfield 70, 3) := by decide +kernel
theorem dX6_letterOf_30 : decode cX6_letterOf 30 = .ok (.iload_n 1, 1) := by decide +kernel
theorem dX6_letterOf_31 : decode cX6_letterOf 31 = .ok (.aaload, 1) := by decide +kernel
theorem dX6_letterOf_32 : decode cX6_letterOf 32 = .ok (.astore 4, 2) := by decide +kernel
theorem dX6_letterOf_34 : decode cX6_letterOf 34 = .ok (.iload_n 2, 1) := by decide +kernel
theorem dX6_letterOf_35 : decode cX6_letterOf 35 = .ok (.aload 4, 2) := by decide +kernel
theorem dX6_letterOf_37 : decode cX6_letterOf 37 = .ok (.getfield 74, 3) := by decide +kernel
theorem dX6_letterOf_40 : decode cX6_letterOf 40 = .ok (.getfield 80, 3) := by decide +kernel
theorem dX6_letterOf_43 : decode cX6_letterOf 43 = .ok (.if_icmp .lt 6, 3) := by decide +kernel
theorem dX6_letterOf_46 : decode cX6_letterOf 46 = .ok (.bipush (-4), 2) := by decide +kernel
theorem dX6_letterOf_48 : decode cX6_letterOf 48 = .ok (.ireturn, 1) := by decide +kernel
theorem dX6_letterOf_49 : decode cX6_letterOf 49 = .ok (.iload_n 3, 1) := by decide +kernel
theorem dX6_letterOf_50 : decode cX6_letterOf 50 = .ok (.tableswitch 74 0 2 #[26, 37, 48], 26) := by decide +kernel
theorem dX6_letterOf_76 : decode cX6_letterOf 76 = .ok (.aload 4, 2) := by decide +kernel
theorem dX6_letterOf_78 : decode cX6_letterOf 78 = .ok (.getfield 74, 3) := by decide +kernel
theorem dX6_letterOf_81 : decode cX6_letterOf 81 = .ok (.getfield 165, 3) := by decide +kernel
theorem dX6_letterOf_84 : decode cX6_letterOf 84 = .ok (.iload_n 2, 1) := by decide +kernel
theorem dX6_letterOf_85 : decode cX6_letterOf 85 = .ok (.iaload, 1) := by decide +kernel
theorem dX6_letterOf_86 : decode cX6_letterOf 86 = .ok (.ireturn, 1) := by decide +kernel
theorem dX6_letterOf_87 : decode cX6_letterOf 87 = .ok (.aload 4, 2) := by decide +kernel
theorem dX6_letterOf_89 : decode cX6_letterOf 89 = .ok (.getfield 74, 3) := by decide +kernel
theorem dX6_letterOf_92 : decode cX6_letterOf 92 = .ok (.getfield 169, 3) := by decide +kernel
theorem dX6_letterOf_95 : decode cX6_letterOf 95 = .ok (.iload_n 2, 1) := by decide +kernel
theorem dX6_letterOf_96 : decode cX6_letterOf 96 = .ok (.iaload, 1) := by decide +kernel
theorem dX6_letterOf_97 : decode cX6_letterOf 97 = .ok (.ireturn, 1) := by decide +kernel
theorem dX6_letterOf_98 : decode cX6_letterOf 98 = .ok (.aload_n 0, 1) := by decide +kernel
theorem dX6_letterOf_99 : decode cX6_letterOf 99 = .ok (.getfield 16, 3) := by decide +kernel
theorem dX6_letterOf_102 : decode cX6_letterOf 102 = .ok (.aload 4, 2) := by decide +kernel
theorem dX6_letterOf_104 : decode cX6_letterOf 104 = .ok (.getfield 74, 3) := by decide +kernel
theorem dX6_letterOf_107 : decode cX6_letterOf 107 = .ok (.getfield 169, 3) := by decide +kernel
theorem dX6_letterOf_110 : decode cX6_letterOf 110 = .ok (.iload_n 2, 1) := by decide +kernel
theorem dX6_letterOf_111 : decode cX6_letterOf 111 = .ok (.iaload, 1) := by decide +kernel
theorem dX6_letterOf_112 : decode cX6_letterOf 112 = .ok (.invokevirtual 171, 3) := by decide +kernel
theorem dX6_letterOf_115 : decode cX6_letterOf 115 = .ok (.ifCond .eq 7, 3) := by decide +kernel
theorem dX6_letterOf_118 : decode cX6_letterOf 118 = .ok (.iconst 1, 1) := by decide +kernel
theorem dX6_letterOf_119 : decode cX6_letterOf 119 = .ok (.goto 4, 3) := by decide +kernel
theorem dX6_letterOf_122 : decode cX6_letterOf 122 = .ok (.iconst 0, 1) := by decide +kernel
theorem dX6_letterOf_123 : decode cX6_letterOf 123 = .ok (.ireturn, 1) := by decide +kernel
theorem dX6_letterOf_124 : decode cX6_letterOf 124 = .ok (.iload_n 2, 1) := by decide +kernel
theorem dX6_letterOf_125 : decode cX6_letterOf 125 = .ok (.ifCond .ne 11, 3) := by decide +kernel
theorem dX6_letterOf_128 : decode cX6_letterOf 128 = .ok (.aload 4, 2) := by decide +kernel
theorem dX6_letterOf_130 : decode cX6_letterOf 130 = .ok (.getfield 174, 3) := by decide +kernel
theorem dX6_letterOf_133 : decode cX6_letterOf 133 = .ok (.goto 4, 3) := by decide +kernel
theorem dX6_letterOf_136 : decode cX6_letterOf 136 = .ok (.iconst 0, 1) := by decide +kernel
theorem dX6_letterOf_137 : decode cX6_letterOf 137 = .ok (.ireturn, 1) := by decide +kernel
theorem dX6_overheard_0 : decode cX6_overheard 0 = .ok (.aload_n 0, 1) := by decide +kernel
theorem dX6_overheard_1 : decode cX6_overheard 1 = .ok (.iload_n 1, 1) := by decide +kernel
theorem dX6_overheard_2 : decode cX6_overheard 2 = .ok (.invokevirtual 129, 3) := by decide +kernel
theorem dX6_overheard_5 : decode cX6_overheard 5 = .ok (.ifCond .eq 16, 3) := by decide +kernel
theorem dX6_overheard_8 : decode cX6_overheard 8 = .ok (.iload_n 2, 1) := by decide +kernel
theorem dX6_overheard_9 : decode cX6_overheard 9 = .ok (.ifCond .lt 12, 3) := by decide +kernel
theorem dX6_overheard_12 : decode cX6_overheard 12 = .ok (.iload_n 3, 1) := by decide +kernel
theorem dX6_overheard_13 : decode cX6_overheard 13 = .ok (.ifCond .lt 8, 3) := by decide +kernel
theorem dX6_overheard_16 : decode cX6_overheard 16 = .ok (.iload_n 3, 1) := by decide +kernel
theorem dX6_overheard_17 : decode cX6_overheard 17 = .ok (.iconst 3, 1) := by decide +kernel
theorem dX6_overheard_18 : decode cX6_overheard 18 = .ok (.if_icmp .le 5, 3) := by decide +kernel
theorem dX6_overheard_21 : decode cX6_overheard 21 = .ok (.iconst (-1), 1) := by decide +kernel
theorem dX6_overheard_22 : decode cX6_overheard 22 = .ok (.ireturn, 1) := by decide +kernel
theorem dX6_overheard_23 : decode cX6_overheard 23 = .ok (.aload_n 0, 1) := by decide +kernel
theorem dX6_overheard_24 : decode cX6_overheard 24 = .ok (.getfield 16, 3) := by decide +kernel
theorem dX6_overheard_27 : decode cX6_overheard 27 = .ok (.getfield 70, 3) := by decide +kernel
theorem dX6_overheard_30 : decode cX6_overheard 30 = .ok (.iload_n 1, 1) := by decide +kernel
theorem dX6_overheard_31 : decode cX6_overheard 31 = .ok (.aaload, 1) := by decide +kernel
theorem dX6_overheard_32 : decode cX6_overheard 32 = .ok (.getfield 177, 3) := by decide +kernel
theorem dX6_overheard_35 : decode cX6_overheard 35 = .ok (.iload_n 2, 1) := by decide +kernel
theorem dX6_overheard_36 : decode cX6_overheard 36 = .ok (.iload_n 3, 1) := by decide +kernel
theorem dX6_overheard_37 : decode cX6_overheard 37 = .ok (.invokevirtual 181, 3) := by decide +kernel
theorem dX6_overheard_40 : decode cX6_overheard 40 = .ok (.ireturn, 1) := by decide +kernel
theorem dX6_pair_0 : decode cX6_pair 0 = .ok (.aload_n 0, 1) := by decide +kernel
theorem dX6_pair_1 : decode cX6_pair 1 = .ok (.iload_n 1, 1) := by decide +kernel
theorem dX6_pair_2 : decode cX6_pair 2 = .ok (.iload_n 2, 1) := by decide +kernel
theorem dX6_pair_3 : decode cX6_pair 3 = .ok (.invokevirtual 63, 3) := by decide +kernel
theorem dX6_pair_6 : decode cX6_pair 6 = .ok (.ifCond .eq 15, 3) := by decide +kernel
theorem dX6_pair_9 : decode cX6_pair 9 = .ok (.aload_n 0, 1) := by decide +kernel
theorem dX6_pair_10 : decode cX6_pair 10 = .ok (.getfield 16, 3) := by decide +kernel
theorem dX6_pair_13 : decode cX6_pair 13 = .ok (.iload_n 1, 1) := by decide +kernel
theorem dX6_pair_14 : decode cX6_pair 14 = .ok (.iload_n 2, 1) := by decide +kernel
theorem dX6_pair_15 : decode cX6_pair 15 = .ok (.invokevirtual 187, 3) := by decide +kernel
theorem dX6_pair_18 : decode cX6_pair 18 = .ok (.goto 4, 3) := by decide +kernel
theorem dX6_pair_21 : decode cX6_pair 21 = .ok (.iconst (-1), 1) := by decide +kernel
theorem dX6_pair_22 : decode cX6_pair 22 = .ok (.ireturn, 1) := by decide +kernel
theorem dX6_draw_0 : decode cX6_draw 0 = .ok (.aload_n 0, 1) := by decide +kernel
theorem dX6_draw_1 : decode cX6_draw 1 = .ok (.iload_n 1, 1) := by decide +kernel
theorem dX6_draw_2 : decode cX6_draw 2 = .ok (.invokevirtual 129, 3) := by decide +kernel
theorem dX6_draw_5 : decode cX6_draw 5 = .ok (.ifCond .eq 14, 3) := by decide +kernel
theorem dX6_draw_8 : decode cX6_draw 8 = .ok (.iload_n 2, 1) := by decide +kernel
theorem dX6_draw_9 : decode cX6_draw 9 = .ok (.ifCond .lt 10, 3) := by decide +kernel
theorem dX6_draw_12 : decode cX6_draw 12 = .ok (.iload_n 2, 1) := by decide +kernel
theorem dX6_draw_13 : decode cX6_draw 13 = .ok (.sipush 999, 3) := by decide +kernel
theorem dX6_draw_16 : decode cX6_draw 16 = .ok (.if_icmp .le 5, 3) := by decide +kernel
theorem dX6_draw_19 : decode cX6_draw 19 = .ok (.iconst (-1), 1) := by decide +kernel
theorem dX6_draw_20 : decode cX6_draw 20 = .ok (.ireturn, 1) := by decide +kernel
theorem dX6_draw_21 : decode cX6_draw 21 = .ok (.aload_n 0, 1) := by decide +kernel
theorem dX6_draw_22 : decode cX6_draw 22 = .ok (.getfield 16, 3) := by decide +kernel
theorem dX6_draw_25 : decode cX6_draw 25 = .ok (.getfield 107, 3) := by decide +kernel
theorem dX6_draw_28 : decode cX6_draw 28 = .ok (.iload_n 1, 1) := by decide +kernel
theorem dX6_draw_29 : decode cX6_draw 29 = .ok (.iload_n 2, 1) := by decide +kernel
theorem dX6_draw_30 : decode cX6_draw 30 = .ok (.invokestatic 190, 3) := by decide +kernel
theorem dX6_draw_33 : decode cX6_draw 33 = .ok (.ireturn, 1) := by decide +kernel
theorem dX6_took_0 : decode cX6_took 0 = .ok (.iload_n 1, 1) := by decide +kernel
theorem dX6_took_1 : decode cX6_took 1 = .ok (.iconst 1, 1) := by decide +kernel
theorem dX6_took_2 : decode cX6_took 2 = .ok (.if_icmp .lt 18, 3) := by decide +kernel
theorem dX6_took_5 : decode cX6_took 5 = .ok (.iload_n 1, 1) := by decide +kernel
theorem dX6_took_6 : decode cX6_took 6 = .ok (.bipush 9, 2) := by decide +kernel
theorem dX6_took_8 : decode cX6_took 8 = .ok (.if_icmp .gt 12, 3) := by decide +kernel
theorem dX6_took_11 : decode cX6_took 11 = .ok (.iload_n 2, 1) := by decide +kernel
theorem dX6_took_12 : decode cX6_took 12 = .ok (.ifCond .lt 8, 3) := by decide +kernel
theorem dX6_took_15 : decode cX6_took 15 = .ok (.iload_n 2, 1) := by decide +kernel
theorem dX6_took_16 : decode cX6_took 16 = .ok (.iconst 2, 1) := by decide +kernel
theorem dX6_took_17 : decode cX6_took 17 = .ok (.if_icmp .le 5, 3) := by decide +kernel
theorem dX6_took_20 : decode cX6_took 20 = .ok (.iconst (-1), 1) := by decide +kernel
theorem dX6_took_21 : decode cX6_took 21 = .ok (.ireturn, 1) := by decide +kernel
theorem dX6_took_22 : decode cX6_took 22 = .ok (.iload_n 2, 1) := by decide +kernel
theorem dX6_took_23 : decode cX6_took 23 = .ok (.ifCond .ne 13, 3) := by decide +kernel
theorem dX6_took_26 : decode cX6_took 26 = .ok (.aload_n 0, 1) := by decide +kernel
theorem dX6_took_27 : decode cX6_took 27 = .ok (.getfield 16, 3) := by decide +kernel
theorem dX6_took_30 : decode cX6_took 30 = .ok (.getfield 194, 3) := by decide +kernel
theorem dX6_took_33 : decode cX6_took 33 = .ok (.iload_n 1, 1) := by decide +kernel
theorem dX6_took_34 : decode cX6_took 34 = .ok (.iaload, 1) := by decide +kernel
theorem dX6_took_35 : decode cX6_took 35 = .ok (.ireturn, 1) := by decide +kernel
theorem dX6_took_36 : decode cX6_took 36 = .ok (.iload_n 2, 1) := by decide +kernel
theorem dX6_took_37 : decode cX6_took 37 = .ok (.iconst 1, 1) := by decide +kernel
theorem dX6_took_38 : decode cX6_took 38 = .ok (.if_icmp .ne 7, 3) := by decide +kernel
theorem dX6_took_41 : decode cX6_took 41 = .ok (.iconst 1, 1) := by decide +kernel
theorem dX6_took_42 : decode cX6_took 42 = .ok (.goto 4, 3) := by decide +kernel
theorem dX6_took_45 : decode cX6_took 45 = .ok (.iconst (-1), 1) := by decide +kernel
theorem dX6_took_46 : decode cX6_took 46 = .ok (.istore_n 3, 1) := by decide +kernel
theorem dX6_took_47 : decode cX6_took 47 = .ok (.iload_n 1, 1) := by decide +kernel
theorem dX6_took_48 : decode cX6_took 48 = .ok (.istore 4, 2) := by decide +kernel
theorem dX6_took_50 : decode cX6_took 50 = .ok (.iload 4, 2) := by decide +kernel
theorem dX6_took_52 : decode cX6_took 52 = .ok (.iconst 1, 1) := by decide +kernel
theorem dX6_took_53 : decode cX6_took 53 = .ok (.if_icmp .lt 35, 3) := by decide +kernel
theorem dX6_took_56 : decode cX6_took 56 = .ok (.iload 4, 2) := by decide +kernel
theorem dX6_took_58 : decode cX6_took 58 = .ok (.bipush 9, 2) := by decide +kernel
theorem dX6_took_60 : decode cX6_took 60 = .ok (.if_icmp .gt 28, 3) := by decide +kernel
theorem dX6_took_63 : decode cX6_took 63 = .ok (.aload_n 0, 1) := by decide +kernel
theorem dX6_took_64 : decode cX6_took 64 = .ok (.getfield 16, 3) := by decide +kernel
theorem dX6_took_67 : decode cX6_took 67 = .ok (.getfield 194, 3) := by decide +kernel
theorem dX6_took_70 : decode cX6_took 70 = .ok (.iload 4, 2) := by decide +kernel
theorem dX6_took_72 : decode cX6_took 72 = .ok (.iaload, 1) := by decide +kernel
theorem dX6_took_73 : decode cX6_took 73 = .ok (.ifCond .le 6, 3) := by decide +kernel
theorem dX6_took_76 : decode cX6_took 76 = .ok (.iload 4, 2) := by decide +kernel
theorem dX6_took_78 : decode cX6_took 78 = .ok (.ireturn, 1) := by decide +kernel
theorem dX6_took_79 : decode cX6_took 79 = .ok (.iload 4, 2) := by decide +kernel
theorem dX6_took_81 : decode cX6_took 81 = .ok (.iload_n 3, 1) := by decide +kernel
theorem dX6_took_82 : decode cX6_took 82 = .ok (.iadd, 1) := by decide +kernel
theorem dX6_took_83 : decode cX6_took 83 = .ok (.istore 4, 2) := by decide +kernel
theorem dX6_took_85 : decode cX6_took 85 = .ok (.goto (-35), 3) := by decide +kernel
theorem dX6_took_88 : decode cX6_took 88 = .ok (.bipush (-4), 2) := by decide +kernel
theorem dX6_took_90 : decode cX6_took 90 = .ok (.ireturn, 1) := by decide +kernel
theorem dX6_ahead_0 : decode cX6_ahead 0 = .ok (.iload_n 1, 1) := by decide +kernel
theorem dX6_ahead_1 : decode cX6_ahead 1 = .ok (.iconst 1, 1) := by decide +kernel
theorem dX6_ahead_2 : decode cX6_ahead 2 = .ok (.if_icmp .lt 18, 3) := by decide +kernel
theorem dX6_ahead_5 : decode cX6_ahead 5 = .ok (.iload_n 1, 1) := by decide +kernel
theorem dX6_ahead_6 : decode cX6_ahead 6 = .ok (.bipush 99, 2) := by decide +kernel
theorem dX6_ahead_8 : decode cX6_ahead 8 = .ok (.if_icmp .gt 12, 3) := by decide +kernel
theorem dX6_ahead_11 : decode cX6_ahead 11 = .ok (.iload_n 2, 1) := by decide +kernel
theorem dX6_ahead_12 : decode cX6_ahead 12 = .ok (.ifCond .lt 8, 3) := by decide +kernel
theorem dX6_ahead_15 : decode cX6_ahead 15 = .ok (.iload_n 2, 1) := by decide +kernel
theorem dX6_ahead_16 : decode cX6_ahead 16 = .ok (.iconst 5, 1) := by decide +kernel
theorem dX6_ahead_17 : decode cX6_ahead 17 = .ok (.if_icmp .le 5, 3) := by decide +kernel
theorem dX6_ahead_20 : decode cX6_ahead 20 = .ok (.iconst (-1), 1) := by decide +kernel
theorem dX6_ahead_21 : decode cX6_ahead 21 = .ok (.ireturn, 1) := by decide +kernel
theorem dX6_ahead_22 : decode cX6_ahead 22 = .ok (.aload_n 0, 1) := by decide +kernel
theorem dX6_ahead_23 : decode cX6_ahead 23 = .ok (.getfield 20, 3) := by decide +kernel
theorem dX6_ahead_26 : decode cX6_ahead 26 = .ok (.aload_n 0, 1) := by decide +kernel
theorem dX6_ahead_27 : decode cX6_ahead 27 = .ok (.getfield 16, 3) := by decide +kernel
theorem dX6_ahead_30 : decode cX6_ahead 30 = .ok (.invokevirtual 125, 3) := by decide +kernel
theorem dX6_ahead_33 : decode cX6_ahead 33 = .ok (.aload_n 0, 1) := by decide +kernel
theorem dX6_ahead_34 : decode cX6_ahead 34 = .ok (.getfield 20, 3) := by decide +kernel
theorem dX6_ahead_37 : decode cX6_ahead 37 = .ok (.iload_n 1, 1) := by decide +kernel
theorem dX6_ahead_38 : decode cX6_ahead 38 = .ok (.invokevirtual 116, 3) := by decide +kernel
theorem dX6_ahead_41 : decode cX6_ahead 41 = .ok (.iload_n 2, 1) := by decide +kernel
theorem dX6_ahead_42 : decode cX6_ahead 42 = .ok (.tableswitch 98 0 4 #[34, 52, 70, 88, 93], 34) := by decide +kernel
theorem dX6_ahead_76 : decode cX6_ahead 76 = .ok (.aload_n 0, 1) := by decide +kernel
theorem dX6_ahead_77 : decode cX6_ahead 77 = .ok (.getfield 20, 3) := by decide +kernel
theorem dX6_ahead_80 : decode cX6_ahead 80 = .ok (.iconst 1, 1) := by decide +kernel
theorem dX6_ahead_81 : decode cX6_ahead 81 = .ok (.invokevirtual 113, 3) := by decide +kernel
theorem dX6_ahead_84 : decode cX6_ahead 84 = .ok (.aload_n 0, 1) := by decide +kernel
theorem dX6_ahead_85 : decode cX6_ahead 85 = .ok (.getfield 16, 3) := by decide +kernel
theorem dX6_ahead_88 : decode cX6_ahead 88 = .ok (.iconst 1, 1) := by decide +kernel
theorem dX6_ahead_89 : decode cX6_ahead 89 = .ok (.invokevirtual 113, 3) := by decide +kernel
theorem dX6_ahead_92 : decode cX6_ahead 92 = .ok (.isub, 1) := by decide +kernel
theorem dX6_ahead_93 : decode cX6_ahead 93 = .ok (.ireturn, 1) := by decide +kernel
theorem dX6_ahead_94 : decode cX6_ahead 94 = .ok (.aload_n 0, 1) := by decide +kernel
theorem dX6_ahead_95 : decode cX6_ahead 95 = .ok (.getfield 20, 3) := by decide +kernel
theorem dX6_ahead_98 : decode cX6_ahead 98 = .ok (.iconst 2, 1) := by decide +kernel
theorem dX6_ahead_99 : decode cX6_ahead 99 = .ok (.invokevirtual 113, 3) := by decide +kernel
theorem dX6_ahead_102 : decode cX6_ahead 102 = .ok (.aload_n 0, 1) := by decide +kernel
theorem dX6_ahead_103 : decode cX6_ahead 103 = .ok (.getfield 16, 3) := by decide +kernel
theorem dX6_ahead_106 : decode cX6_ahead 106 = .ok (.iconst 2, 1) := by decide +kernel
theorem dX6_ahead_107 : decode cX6_ahead 107 = .ok (.invokevirtual 113, 3) := by decide +kernel
theorem dX6_ahead_110 : decode cX6_ahead 110 = .ok (.isub, 1) := by decide +kernel
theorem dX6_ahead_111 : decode cX6_ahead 111 = .ok (.ireturn, 1) := by decide +kernel
theorem dX6_ahead_112 : decode cX6_ahead 112 = .ok (.aload_n 0, 1) := by decide +kernel
theorem dX6_ahead_113 : decode cX6_ahead 113 = .ok (.getfield 20, 3) := by decide +kernel
theorem dX6_ahead_116 : decode cX6_ahead 116 = .ok (.iconst 3, 1) := by decide +kernel
theorem dX6_ahead_117 : decode cX6_ahead 117 = .ok (.invokevirtual 113, 3) := by decide +kernel
theorem dX6_ahead_120 : decode cX6_ahead 120 = .ok (.aload_n 0, 1) := by decide +kernel
theorem dX6_ahead_121 : decode cX6_ahead 121 = .ok (.getfield 16, 3) := by decide +kernel
theorem dX6_ahead_124 : decode cX6_ahead 124 = .ok (.iconst 3, 1) := by decide +kernel
theorem dX6_ahead_125 : decode cX6_ahead 125 = .ok (.invokevirtual 113, 3) := by decide +kernel
theorem dX6_ahead_128 : decode cX6_ahead 128 = .ok (.isub, 1) := by decide +kernel
theorem dX6_ahead_129 : decode cX6_ahead 129 = .ok (.ireturn, 1) := by decide +kernel
theorem dX6_ahead_130 : decode cX6_ahead 130 = .ok (.aload_n 0, 1) := by decide +kernel
theorem dX6_ahead_131 : decode cX6_ahead 131 = .ok (.invokevirtual 197, 3) := by decide +kernel
theorem dX6_ahead_134 : decode cX6_ahead 134 = .ok (.ireturn, 1) := by decide +kernel
theorem dX6_ahead_135 : decode cX6_ahead 135 = .ok (.aload_n 0, 1) := by decide +kernel
theorem dX6_ahead_136 : decode cX6_ahead 136 = .ok (.invokevirtual 200, 3) := by decide +kernel
theorem dX6_ahead_139 : decode cX6_ahead 139 = .ok (.ireturn, 1) := by decide +kernel
theorem dX6_ahead_140 : decode cX6_ahead 140 = .ok (.aload_n 0, 1) := by decide +kernel
theorem dX6_ahead_141 : decode cX6_ahead 141 = .ok (.getfield 20, 3) := by decide +kernel
theorem dX6_ahead_144 : decode cX6_ahead 144 = .ok (.iconst 0, 1) := by decide +kernel
theorem dX6_ahead_145 : decode cX6_ahead 145 = .ok (.invokevirtual 113, 3) := by decide +kernel
theorem dX6_ahead_148 : decode cX6_ahead 148 = .ok (.ireturn, 1) := by decide +kernel
theorem dX6_soon_0 : decode cX6_soon 0 = .ok (.aload_n 0, 1) := by decide +kernel
theorem dX6_soon_1 : decode cX6_soon 1 = .ok (.getfield 16, 3) := by decide +kernel
theorem dX6_soon_4 : decode cX6_soon 4 = .ok (.iconst 1, 1) := by decide +kernel
theorem dX6_soon_5 : decode cX6_soon 5 = .ok (.invokevirtual 113, 3) := by decide +kernel
theorem dX6_soon_8 : decode cX6_soon 8 = .ok (.istore_n 1, 1) := by decide +kernel
theorem dX6_soon_9 : decode cX6_soon 9 = .ok (.aload_n 0, 1) := by decide +kernel
theorem dX6_soon_10 : decode cX6_soon 10 = .ok (.getfield 20, 3) := by decide +kernel
theorem dX6_soon_13 : decode cX6_soon 13 = .ok (.aload_n 0, 1) := by decide +kernel
theorem dX6_soon_14 : decode cX6_soon 14 = .ok (.getfield 16, 3) := by decide +kernel
theorem dX6_soon_17 : decode cX6_soon 17 = .ok (.invokevirtual 125, 3) := by decide +kernel
theorem dX6_soon_20 : decode cX6_soon 20 = .ok (.iconst 1, 1) := by decide +kernel
theorem dX6_soon_21 : decode cX6_soon 21 = .ok (.istore_n 2, 1) := by decide +kernel
theorem dX6_soon_22 : decode cX6_soon 22 = .ok (.iload_n 2, 1) := by decide +kernel
theorem dX6_soon_23 : decode cX6_soon 23 = .ok (.bipush 99, 2) := by decide +kernel
theorem dX6_soon_25 : decode cX6_soon 25 = .ok (.if_icmp .gt 31, 3) := by decide +kernel
theorem dX6_soon_28 : decode cX6_soon 28 = .ok (.aload_n 0, 1) := by decide +kernel
theorem dX6_soon_29 : decode cX6_soon 29 = .ok (.getfield 20, 3) := by decide +kernel
theorem dX6_soon_32 : decode cX6_soon 32 = .ok (.iconst 1, 1) := by decide +kernel
theorem dX6_soon_33 : decode cX6_soon 33 = .ok (.invokevirtual 116, 3) := by decide +kernel
theorem dX6_soon_36 : decode cX6_soon 36 = .ok (.aload_n 0, 1) := by decide +kernel
theorem dX6_soon_37 : decode cX6_soon 37 = .ok (.getfield 20, 3) := by decide +kernel
theorem dX6_soon_40 : decode cX6_soon 40 = .ok (.iconst 1, 1) := by decide +kernel
theorem dX6_soon_41 : decode cX6_soon 41 = .ok (.invokevirtual 113, 3) := by decide +kernel
theorem dX6_soon_44 : decode cX6_soon 44 = .ok (.iload_n 1, 1) := by decide +kernel
theorem dX6_soon_45 : decode cX6_soon 45 = .ok (.if_icmp .le 5, 3) := by decide +kernel
theorem dX6_soon_48 : decode cX6_soon 48 = .ok (.iload_n 2, 1) := by decide +kernel
theorem dX6_soon_49 : decode cX6_soon 49 = .ok (.ireturn, 1) := by decide +kernel
theorem dX6_soon_50 : decode cX6_soon 50 = .ok (.iinc 2 1, 3) := by decide +kernel
theorem dX6_soon_53 : decode cX6_soon 53 = .ok (.goto (-31), 3) := by decide +kernel
theorem dX6_soon_56 : decode cX6_soon 56 = .ok (.bipush (-4), 2) := by decide +kernel
theorem dX6_soon_58 : decode cX6_soon 58 = .ok (.ireturn, 1) := by decide +kernel
theorem dX6_count_0 : decode cX6_count 0 = .ok (.iload_n 1, 1) := by decide +kernel
theorem dX6_count_1 : decode cX6_count 1 = .ok (.tableswitch 195 0 14 #[75, 83, 92, 101, 109, 118, 127, 136, 145, 153, 161, 169, 177, 185, 190], 75) := by decide +kernel
theorem dX6_count_76 : decode cX6_count 76 = .ok (.aload_n 0, 1) := by decide +kernel
theorem dX6_count_77 : decode cX6_count 77 = .ok (.getfield 16, 3) := by decide +kernel
theorem dX6_count_80 : decode cX6_count 80 = .ok (.getfield 60, 3) := by decide +kernel
theorem dX6_count_83 : decode cX6_count 83 = .ok (.ireturn, 1) := by decide +kernel
theorem dX6_count_84 : decode cX6_count 84 = .ok (.aload_n 0, 1) := by decide +kernel
theorem dX6_count_85 : decode cX6_count 85 = .ok (.getfield 16, 3) := by decide +kernel
theorem dX6_count_88 : decode cX6_count 88 = .ok (.iconst 0, 1) := by decide +kernel
theorem dX6_count_89 : decode cX6_count 89 = .ok (.invokevirtual 104, 3) := by decide +kernel
theorem dX6_count_92 : decode cX6_count 92 = .ok (.ireturn, 1) := by decide +kernel
theorem dX6_count_93 : decode cX6_count 93 = .ok (.aload_n 0, 1) := by decide +kernel
theorem dX6_count_94 : decode cX6_count 94 = .ok (.getfield 16, 3) := by decide +kernel
theorem dX6_count_97 : decode cX6_count 97 = .ok (.iconst 1, 1) := by decide +kernel
theorem dX6_count_98 : decode cX6_count 98 = .ok (.invokevirtual 104, 3) := by decide +kernel
theorem dX6_count_101 : decode cX6_count 101 = .ok (.ireturn, 1) := by decide +kernel
theorem dX6_count_102 : decode cX6_count 102 = .ok (.aload_n 0, 1) := by decide +kernel
theorem dX6_count_103 : decode cX6_count 103 = .ok (.getfield 16, 3) := by decide +kernel
theorem dX6_count_106 : decode cX6_count 106 = .ok (.getfield 110, 3) := by decide +kernel
theorem dX6_count_109 : decode cX6_count 109 = .ok (.ireturn, 1) := by decide +kernel
theorem dX6_count_110 : decode cX6_count 110 = .ok (.aload_n 0, 1) := by decide +kernel
theorem dX6_count_111 : decode cX6_count 111 = .ok (.getfield 16, 3) := by decide +kernel
theorem dX6_count_114 : decode cX6_count 114 = .ok (.iconst 0, 1) := by decide +kernel
theorem dX6_count_115 : decode cX6_count 115 = .ok (.invokevirtual 113, 3) := by decide +kernel
theorem dX6_count_118 : decode cX6_count 118 = .ok (.ireturn, 1) := by decide +kernel
theorem dX6_count_119 : decode cX6_count 119 = .ok (.aload_n 0, 1) := by decide +kernel
theorem dX6_count_120 : decode cX6_count 120 = .ok (.getfield 16, 3) := by decide +kernel
theorem dX6_count_123 : decode cX6_count 123 = .ok (.iconst 1, 1) := by decide +kernel
theorem dX6_count_124 : decode cX6_count 124 = .ok (.invokevirtual 113, 3) := by decide +kernel
theorem dX6_count_127 : decode cX6_count 127 = .ok (.ireturn, 1) := by decide +kernel
theorem dX6_count_128 : decode cX6_count 128 = .ok (.aload_n 0, 1) := by decide +kernel
theorem dX6_count_129 : decode cX6_count 129 = .ok (.getfield 16, 3) := by decide +kernel
theorem dX6_count_132 : decode cX6_count 132 = .ok (.iconst 2, 1) := by decide +kernel
theorem dX6_count_133 : decode cX6_count 133 = .ok (.invokevirtual 113, 3) := by decide +kernel
theorem dX6_count_136 : decode cX6_count 136 = .ok (.ireturn, 1) := by decide +kernel
theorem dX6_count_137 : decode cX6_count 137 = .ok (.aload_n 0, 1) := by decide +kernel
theorem dX6_count_138 : decode cX6_count 138 = .ok (.getfield 16, 3) := by decide +kernel
theorem dX6_count_141 : decode cX6_count 141 = .ok (.iconst 3, 1) := by decide +kernel
theorem dX6_count_142 : decode cX6_count 142 = .ok (.invokevirtual 113, 3) := by decide +kernel
theorem dX6_count_145 : decode cX6_count 145 = .ok (.ireturn, 1) := by decide +kernel
theorem dX6_count_146 : decode cX6_count 146 = .ok (.aload_n 0, 1) := by decide +kernel
theorem dX6_count_147 : decode cX6_count 147 = .ok (.getfield 16, 3) := by decide +kernel
theorem dX6_count_150 : decode cX6_count 150 = .ok (.getfield 107, 3) := by decide +kernel
theorem dX6_count_153 : decode cX6_count 153 = .ok (.ireturn, 1) := by decide +kernel
theorem dX6_count_154 : decode cX6_count 154 = .ok (.aload_n 0, 1) := by decide +kernel
theorem dX6_count_155 : decode cX6_count 155 = .ok (.getfield 16, 3) := by decide +kernel
theorem dX6_count_158 : decode cX6_count 158 = .ok (.getfield 203, 3) := by decide +kernel
theorem dX6_count_161 : decode cX6_count 161 = .ok (.ireturn, 1) := by decide +kernel
theorem dX6_count_162 : decode cX6_count 162 = .ok (.aload_n 0, 1) := by decide +kernel
theorem dX6_count_163 : decode cX6_count 163 = .ok (.getfield 16, 3) := by decide +kernel
theorem dX6_count_166 : decode cX6_count 166 = .ok (.getfield 206, 3) := by decide +kernel
theorem dX6_count_169 : decode cX6_count 169 = .ok (.ireturn, 1) := by decide +kernel
theorem dX6_count_170 : decode cX6_count 170 = .ok (.aload_n 0, 1) := by decide +kernel
theorem dX6_count_171 : decode cX6_count 171 = .ok (.getfield 16, 3) := by decide +kernel
theorem dX6_count_174 : decode cX6_count 174 = .ok (.getfield 209, 3) := by decide +kernel
theorem dX6_count_177 : decode cX6_count 177 = .ok (.ireturn, 1) := by decide +kernel
theorem dX6_count_178 : decode cX6_count 178 = .ok (.aload_n 0, 1) := by decide +kernel
theorem dX6_count_179 : decode cX6_count 179 = .ok (.getfield 16, 3) := by decide +kernel
theorem dX6_count_182 : decode cX6_count 182 = .ok (.getfield 212, 3) := by decide +kernel
theorem dX6_count_185 : decode cX6_count 185 = .ok (.ireturn, 1) := by decide +kernel
theorem dX6_count_186 : decode cX6_count 186 = .ok (.aload_n 0, 1) := by decide +kernel
theorem dX6_count_187 : decode cX6_count 187 = .ok (.getfield 119, 3) := by decide +kernel
theorem dX6_count_190 : decode cX6_count 190 = .ok (.ireturn, 1) := by decide +kernel
theorem dX6_count_191 : decode cX6_count 191 = .ok (.aload_n 0, 1) := by decide +kernel
theorem dX6_count_192 : decode cX6_count 192 = .ok (.getfield 48, 3) := by decide +kernel
theorem dX6_count_195 : decode cX6_count 195 = .ok (.ireturn, 1) := by decide +kernel
theorem dX6_count_196 : decode cX6_count 196 = .ok (.iconst (-1), 1) := by decide +kernel
theorem dX6_count_197 : decode cX6_count 197 = .ok (.ireturn, 1) := by decide +kernel
theorem dX6_isStation_0 : decode cX6_isStation 0 = .ok (.iload_n 1, 1) := by decide +kernel
theorem dX6_isStation_1 : decode cX6_isStation 1 = .ok (.ifCond .lt 18, 3) := by decide +kernel
theorem dX6_isStation_4 : decode cX6_isStation 4 = .ok (.iload_n 1, 1) := by decide +kernel
theorem dX6_isStation_5 : decode cX6_isStation 5 = .ok (.aload_n 0, 1) := by decide +kernel
theorem dX6_isStation_6 : decode cX6_isStation 6 = .ok (.getfield 16, 3) := by decide +kernel
theorem dX6_isStation_9 : decode cX6_isStation 9 = .ok (.getfield 60, 3) := by decide +kernel
theorem dX6_isStation_12 : decode cX6_isStation 12 = .ok (.if_icmp .ge 7, 3) := by decide +kernel
theorem dX6_isStation_15 : decode cX6_isStation 15 = .ok (.iconst 1, 1) := by decide +kernel
theorem dX6_isStation_16 : decode cX6_isStation 16 = .ok (.goto 4, 3) := by decide +kernel
theorem dX6_isStation_19 : decode cX6_isStation 19 = .ok (.iconst 0, 1) := by decide +kernel
theorem dX6_isStation_20 : decode cX6_isStation 20 = .ok (.ireturn, 1) := by decide +kernel
theorem dX6_isPair_0 : decode cX6_isPair 0 = .ok (.aload_n 0, 1) := by decide +kernel
theorem dX6_isPair_1 : decode cX6_isPair 1 = .ok (.iload_n 1, 1) := by decide +kernel
theorem dX6_isPair_2 : decode cX6_isPair 2 = .ok (.invokevirtual 129, 3) := by decide +kernel
theorem dX6_isPair_5 : decode cX6_isPair 5 = .ok (.ifCond .eq 20, 3) := by decide +kernel
theorem dX6_isPair_8 : decode cX6_isPair 8 = .ok (.aload_n 0, 1) := by decide +kernel
theorem dX6_isPair_9 : decode cX6_isPair 9 = .ok (.iload_n 2, 1) := by decide +kernel
theorem dX6_isPair_10 : decode cX6_isPair 10 = .ok (.invokevirtual 129, 3) := by decide +kernel
theorem dX6_isPair_13 : decode cX6_isPair 13 = .ok (.ifCond .eq 12, 3) := by decide +kernel
theorem dX6_isPair_16 : decode cX6_isPair 16 = .ok (.iload_n 1, 1) := by decide +kernel
theorem dX6_isPair_17 : decode cX6_isPair 17 = .ok (.iload_n 2, 1) := by decide +kernel
theorem dX6_isPair_18 : decode cX6_isPair 18 = .ok (.if_icmp .eq 7, 3) := by decide +kernel
theorem dX6_isPair_21 : decode cX6_isPair 21 = .ok (.iconst 1, 1) := by decide +kernel
theorem dX6_isPair_22 : decode cX6_isPair 22 = .ok (.goto 4, 3) := by decide +kernel
theorem dX6_isPair_25 : decode cX6_isPair 25 = .ok (.iconst 0, 1) := by decide +kernel
theorem dX6_isPair_26 : decode cX6_isPair 26 = .ok (.ireturn, 1) := by decide +kernel
theorem dX6_takeText_0 : decode cX6_takeText 0 = .ok (.aload_n 0, 1) := by decide +kernel
theorem dX6_takeText_1 : decode cX6_takeText 1 = .ok (.getfield 28, 3) := by decide +kernel
theorem dX6_takeText_4 : decode cX6_takeText 4 = .ok (.aload_n 0, 1) := by decide +kernel
theorem dX6_takeText_5 : decode cX6_takeText 5 = .ok (.getfield 48, 3) := by decide +kernel
theorem dX6_takeText_8 : decode cX6_takeText 8 = .ok (.invokevirtual 56, 3) := by decide +kernel
theorem dX6_takeText_11 : decode cX6_takeText 11 = .ok (.bipush (-4), 2) := by decide +kernel
theorem dX6_takeText_13 : decode cX6_takeText 13 = .ok (.if_icmp .ne 13, 3) := by decide +kernel
theorem dX6_takeText_16 : decode cX6_takeText 16 = .ok (.aload_n 0, 1) := by decide +kernel
theorem dX6_takeText_17 : decode cX6_takeText 17 = .ok (.getfield 20, 3) := by decide +kernel
theorem dX6_takeText_20 : decode cX6_takeText 20 = .ok (.getfield 60, 3) := by decide +kernel
theorem dX6_takeText_23 : decode cX6_takeText 23 = .ok (.ifCond .ne 5, 3) := by decide +kernel
theorem dX6_takeText_26 : decode cX6_takeText 26 = .ok (.iconst 0, 1) := by decide +kernel
theorem dX6_takeText_27 : decode cX6_takeText 27 = .ok (.ireturn, 1) := by decide +kernel
theorem dX6_takeText_28 : decode cX6_takeText 28 = .ok (.aload_n 0, 1) := by decide +kernel
theorem dX6_takeText_29 : decode cX6_takeText 29 = .ok (.getfield 20, 3) := by decide +kernel
theorem dX6_takeText_32 : decode cX6_takeText 32 = .ok (.invokevirtual 215, 3) := by decide +kernel
theorem dX6_takeText_35 : decode cX6_takeText 35 = .ok (.aload_n 0, 1) := by decide +kernel
theorem dX6_takeText_36 : decode cX6_takeText 36 = .ok (.getfield 16, 3) := by decide +kernel
theorem dX6_takeText_39 : decode cX6_takeText 39 = .ok (.aload_n 0, 1) := by decide +kernel
theorem dX6_takeText_40 : decode cX6_takeText 40 = .ok (.getfield 20, 3) := by decide +kernel
theorem dX6_takeText_43 : decode cX6_takeText 43 = .ok (.invokevirtual 125, 3) := by decide +kernel
theorem dX6_takeText_46 : decode cX6_takeText 46 = .ok (.aload_n 0, 1) := by decide +kernel
theorem dX6_takeText_47 : decode cX6_takeText 47 = .ok (.iconst 0, 1) := by decide +kernel
theorem dX6_takeText_48 : decode cX6_takeText 48 = .ok (.putfield 119, 3) := by decide +kernel
theorem dX6_takeText_51 : decode cX6_takeText 51 = .ok (.aload_n 0, 1) := by decide +kernel
theorem dX6_takeText_52 : decode cX6_takeText 52 = .ok (.iconst 0, 1) := by decide +kernel
theorem dX6_takeText_53 : decode cX6_takeText 53 = .ok (.putfield 122, 3) := by decide +kernel
theorem dX6_takeText_56 : decode cX6_takeText 56 = .ok (.iconst 1, 1) := by decide +kernel
theorem dX6_takeText_57 : decode cX6_takeText 57 = .ok (.ireturn, 1) := by decide +kernel
theorem dX6_remember_0 : decode cX6_remember 0 = .ok (.aload_n 0, 1) := by decide +kernel
theorem dX6_remember_1 : decode cX6_remember 1 = .ok (.getfield 32, 3) := by decide +kernel
theorem dX6_remember_4 : decode cX6_remember 4 = .ok (.aload_n 0, 1) := by decide +kernel
theorem dX6_remember_5 : decode cX6_remember 5 = .ok (.getfield 122, 3) := by decide +kernel
theorem dX6_remember_8 : decode cX6_remember 8 = .ok (.aaload, 1) := by decide +kernel
theorem dX6_remember_9 : decode cX6_remember 9 = .ok (.aload_n 0, 1) := by decide +kernel
theorem dX6_remember_10 : decode cX6_remember 10 = .ok (.getfield 16, 3) := by decide +kernel
theorem dX6_remember_13 : decode cX6_remember 13 = .ok (.invokevirtual 125, 3) := by decide +kernel
theorem dX6_remember_16 : decode cX6_remember 16 = .ok (.aload_n 0, 1) := by decide +kernel
theorem dX6_remember_17 : decode cX6_remember 17 = .ok (.aload_n 0, 1) := by decide +kernel
theorem dX6_remember_18 : decode cX6_remember 18 = .ok (.getfield 122, 3) := by decide +kernel
theorem dX6_remember_21 : decode cX6_remember 21 = .ok (.iconst 3, 1) := by decide +kernel
theorem dX6_remember_22 : decode cX6_remember 22 = .ok (.if_icmp .ne 7, 3) := by decide +kernel
theorem dX6_remember_25 : decode cX6_remember 25 = .ok (.iconst 0, 1) := by decide +kernel
theorem dX6_remember_26 : decode cX6_remember 26 = .ok (.goto 9, 3) := by decide +kernel
theorem dX6_remember_29 : decode cX6_remember 29 = .ok (.aload_n 0, 1) := by decide +kernel
theorem dX6_remember_30 : decode cX6_remember 30 = .ok (.getfield 122, 3) := by decide +kernel
theorem dX6_remember_33 : decode cX6_remember 33 = .ok (.iconst 1, 1) := by decide +kernel
theorem dX6_remember_34 : decode cX6_remember 34 = .ok (.iadd, 1) := by decide +kernel
theorem dX6_remember_35 : decode cX6_remember 35 = .ok (.putfield 122, 3) := by decide +kernel
theorem dX6_remember_38 : decode cX6_remember 38 = .ok (.aload_n 0, 1) := by decide +kernel
theorem dX6_remember_39 : decode cX6_remember 39 = .ok (.aload_n 0, 1) := by decide +kernel
theorem dX6_remember_40 : decode cX6_remember 40 = .ok (.getfield 119, 3) := by decide +kernel
theorem dX6_remember_43 : decode cX6_remember 43 = .ok (.iconst 1, 1) := by decide +kernel
theorem dX6_remember_44 : decode cX6_remember 44 = .ok (.iadd, 1) := by decide +kernel
theorem dX6_remember_45 : decode cX6_remember 45 = .ok (.iconst 4, 1) := by decide +kernel
theorem dX6_remember_46 : decode cX6_remember 46 = .ok (.invokestatic 218, 3) := by decide +kernel
theorem dX6_remember_49 : decode cX6_remember 49 = .ok (.putfield 119, 3) := by decide +kernel
theorem dX6_remember_52 : decode cX6_remember 52 = .ok (.return_, 1) := by decide +kernel
theorem dX6_sentInTrial_0 : decode cX6_sentInTrial 0 = .ok (.aload_n 0, 1) := by decide +kernel
theorem dX6_sentInTrial_1 : decode cX6_sentInTrial 1 = .ok (.getfield 20, 3) := by decide +kernel
theorem dX6_sentInTrial_4 : decode cX6_sentInTrial 4 = .ok (.getfield 70, 3) := by decide +kernel
theorem dX6_sentInTrial_7 : decode cX6_sentInTrial 7 = .ok (.iload_n 1, 1) := by decide +kernel
theorem dX6_sentInTrial_8 : decode cX6_sentInTrial 8 = .ok (.aaload, 1) := by decide +kernel
theorem dX6_sentInTrial_9 : decode cX6_sentInTrial 9 = .ok (.getfield 147, 3) := by decide +kernel
theorem dX6_sentInTrial_12 : decode cX6_sentInTrial 12 = .ok (.aload_n 0, 1) := by decide +kernel
theorem dX6_sentInTrial_13 : decode cX6_sentInTrial 13 = .ok (.getfield 16, 3) := by decide +kernel
theorem dX6_sentInTrial_16 : decode cX6_sentInTrial 16 = .ok (.getfield 70, 3) := by decide +kernel
theorem dX6_sentInTrial_19 : decode cX6_sentInTrial 19 = .ok (.iload_n 1, 1) := by decide +kernel
theorem dX6_sentInTrial_20 : decode cX6_sentInTrial 20 = .ok (.aaload, 1) := by decide +kernel
theorem dX6_sentInTrial_21 : decode cX6_sentInTrial 21 = .ok (.getfield 147, 3) := by decide +kernel
theorem dX6_sentInTrial_24 : decode cX6_sentInTrial 24 = .ok (.isub, 1) := by decide +kernel
theorem dX6_sentInTrial_25 : decode cX6_sentInTrial 25 = .ok (.ireturn, 1) := by decide +kernel
theorem dX6_mostSentInTrial_0 : decode cX6_mostSentInTrial 0 = .ok (.aload_n 0, 1) := by decide +kernel
theorem dX6_mostSentInTrial_1 : decode cX6_mostSentInTrial 1 = .ok (.iconst 0, 1) := by decide +kernel
theorem dX6_mostSentInTrial_2 : decode cX6_mostSentInTrial 2 = .ok (.invokevirtual 223, 3) := by decide +kernel
theorem dX6_mostSentInTrial_5 : decode cX6_mostSentInTrial 5 = .ok (.istore_n 1, 1) := by decide +kernel
theorem dX6_mostSentInTrial_6 : decode cX6_mostSentInTrial 6 = .ok (.iconst 1, 1) := by decide +kernel
theorem dX6_mostSentInTrial_7 : decode cX6_mostSentInTrial 7 = .ok (.istore_n 2, 1) := by decide +kernel
theorem dX6_mostSentInTrial_8 : decode cX6_mostSentInTrial 8 = .ok (.iload_n 2, 1) := by decide +kernel
theorem dX6_mostSentInTrial_9 : decode cX6_mostSentInTrial 9 = .ok (.aload_n 0, 1) := by decide +kernel
theorem dX6_mostSentInTrial_10 : decode cX6_mostSentInTrial 10 = .ok (.getfield 16, 3) := by decide +kernel
theorem dX6_mostSentInTrial_13 : decode cX6_mostSentInTrial 13 = .ok (.getfield 60, 3) := by decide +kernel
theorem dX6_mostSentInTrial_16 : decode cX6_mostSentInTrial 16 = .ok (.if_icmp .ge 19, 3) := by decide +kernel
theorem dX6_mostSentInTrial_19 : decode cX6_mostSentInTrial 19 = .ok (.iload_n 1, 1) := by decide +kernel
theorem dX6_mostSentInTrial_20 : decode cX6_mostSentInTrial 20 = .ok (.aload_n 0, 1) := by decide +kernel
theorem dX6_mostSentInTrial_21 : decode cX6_mostSentInTrial 21 = .ok (.iload_n 2, 1) := by decide +kernel
theorem dX6_mostSentInTrial_22 : decode cX6_mostSentInTrial 22 = .ok (.invokevirtual 223, 3) := by decide +kernel
theorem dX6_mostSentInTrial_25 : decode cX6_mostSentInTrial 25 = .ok (.invokestatic 226, 3) := by decide +kernel
theorem dX6_mostSentInTrial_28 : decode cX6_mostSentInTrial 28 = .ok (.istore_n 1, 1) := by decide +kernel
theorem dX6_mostSentInTrial_29 : decode cX6_mostSentInTrial 29 = .ok (.iinc 2 1, 3) := by decide +kernel
theorem dX6_mostSentInTrial_32 : decode cX6_mostSentInTrial 32 = .ok (.goto (-24), 3) := by decide +kernel
theorem dX6_mostSentInTrial_35 : decode cX6_mostSentInTrial 35 = .ok (.iload_n 1, 1) := by decide +kernel
theorem dX6_mostSentInTrial_36 : decode cX6_mostSentInTrial 36 = .ok (.ireturn, 1) := by decide +kernel
theorem dX6_leastSentInTrial_0 : decode cX6_leastSentInTrial 0 = .ok (.aload_n 0, 1) := by decide +kernel
theorem dX6_leastSentInTrial_1 : decode cX6_leastSentInTrial 1 = .ok (.iconst 0, 1) := by decide +kernel
theorem dX6_leastSentInTrial_2 : decode cX6_leastSentInTrial 2 = .ok (.invokevirtual 223, 3) := by decide +kernel
theorem dX6_leastSentInTrial_5 : decode cX6_leastSentInTrial 5 = .ok (.istore_n 1, 1) := by decide +kernel
theorem dX6_leastSentInTrial_6 : decode cX6_leastSentInTrial 6 = .ok (.iconst 1, 1) := by decide +kernel
theorem dX6_leastSentInTrial_7 : decode cX6_leastSentInTrial 7 = .ok (.istore_n 2, 1) := by decide +kernel
theorem dX6_leastSentInTrial_8 : decode cX6_leastSentInTrial 8 = .ok (.iload_n 2, 1) := by decide +kernel
theorem dX6_leastSentInTrial_9 : decode cX6_leastSentInTrial 9 = .ok (.aload_n 0, 1) := by decide +kernel
theorem dX6_leastSentInTrial_10 : decode cX6_leastSentInTrial 10 = .ok (.getfield 16, 3) := by decide +kernel
theorem dX6_leastSentInTrial_13 : decode cX6_leastSentInTrial 13 = .ok (.getfield 60, 3) := by decide +kernel
theorem dX6_leastSentInTrial_16 : decode cX6_leastSentInTrial 16 = .ok (.if_icmp .ge 19, 3) := by decide +kernel
theorem dX6_leastSentInTrial_19 : decode cX6_leastSentInTrial 19 = .ok (.iload_n 1, 1) := by decide +kernel
theorem dX6_leastSentInTrial_20 : decode cX6_leastSentInTrial 20 = .ok (.aload_n 0, 1) := by decide +kernel
theorem dX6_leastSentInTrial_21 : decode cX6_leastSentInTrial 21 = .ok (.iload_n 2, 1) := by decide +kernel
theorem dX6_leastSentInTrial_22 : decode cX6_leastSentInTrial 22 = .ok (.invokevirtual 223, 3) := by decide +kernel
theorem dX6_leastSentInTrial_25 : decode cX6_leastSentInTrial 25 = .ok (.invokestatic 218, 3) := by decide +kernel
theorem dX6_leastSentInTrial_28 : decode cX6_leastSentInTrial 28 = .ok (.istore_n 1, 1) := by decide +kernel
theorem dX6_leastSentInTrial_29 : decode cX6_leastSentInTrial 29 = .ok (.iinc 2 1, 3) := by decide +kernel
theorem dX6_leastSentInTrial_32 : decode cX6_leastSentInTrial 32 = .ok (.goto (-24), 3) := by decide +kernel
theorem dX6_leastSentInTrial_35 : decode cX6_leastSentInTrial 35 = .ok (.iload_n 1, 1) := by decide +kernel
theorem dX6_leastSentInTrial_36 : decode cX6_leastSentInTrial 36 = .ok (.ireturn, 1) := by decide +kernel
theorem dX6_drawnNumber_0 : decode cX6_drawnNumber 0 = .ok (.ldc2_w 229, 3) := by decide +kernel
theorem dX6_drawnNumber_3 : decode cX6_drawnNumber 3 = .ok (.iload_n 0, 1) := by decide +kernel
theorem dX6_drawnNumber_4 : decode cX6_drawnNumber 4 = .ok (.i2l, 1) := by decide +kernel
theorem dX6_drawnNumber_5 : decode cX6_drawnNumber 5 = .ok (.lmul, 1) := by decide +kernel
theorem dX6_drawnNumber_6 : decode cX6_drawnNumber 6 = .ok (.ldc2_w 231, 3) := by decide +kernel
theorem dX6_drawnNumber_9 : decode cX6_drawnNumber 9 = .ok (.iload_n 1, 1) := by decide +kernel
theorem dX6_drawnNumber_10 : decode cX6_drawnNumber 10 = .ok (.i2l, 1) := by decide +kernel
theorem dX6_drawnNumber_11 : decode cX6_drawnNumber 11 = .ok (.lmul, 1) := by decide +kernel
theorem dX6_drawnNumber_12 : decode cX6_drawnNumber 12 = .ok (.ladd, 1) := by decide +kernel
theorem dX6_drawnNumber_13 : decode cX6_drawnNumber 13 = .ok (.ldc2_w 233, 3) := by decide +kernel
theorem dX6_drawnNumber_16 : decode cX6_drawnNumber 16 = .ok (.iload_n 2, 1) := by decide +kernel
theorem dX6_drawnNumber_17 : decode cX6_drawnNumber 17 = .ok (.i2l, 1) := by decide +kernel
theorem dX6_drawnNumber_18 : decode cX6_drawnNumber 18 = .ok (.lmul, 1) := by decide +kernel
theorem dX6_drawnNumber_19 : decode cX6_drawnNumber 19 = .ok (.ladd, 1) := by decide +kernel
theorem dX6_drawnNumber_20 : decode cX6_drawnNumber 20 = .ok (.lconst 1, 1) := by decide +kernel
theorem dX6_drawnNumber_21 : decode cX6_drawnNumber 21 = .ok (.ladd, 1) := by decide +kernel
theorem dX6_drawnNumber_22 : decode cX6_drawnNumber 22 = .ok (.lstore_n 3, 1) := by decide +kernel
theorem dX6_drawnNumber_23 : decode cX6_drawnNumber 23 = .ok (.lload_n 3, 1) := by decide +kernel
theorem dX6_drawnNumber_24 : decode cX6_drawnNumber 24 = .ok (.lload_n 3, 1) := by decide +kernel
theorem dX6_drawnNumber_25 : decode cX6_drawnNumber 25 = .ok (.lmul, 1) := by decide +kernel
theorem dX6_drawnNumber_26 : decode cX6_drawnNumber 26 = .ok (.ldc2_w 235, 3) := by decide +kernel
theorem dX6_drawnNumber_29 : decode cX6_drawnNumber 29 = .ok (.lrem, 1) := by decide +kernel
theorem dX6_drawnNumber_30 : decode cX6_drawnNumber 30 = .ok (.l2i, 1) := by decide +kernel
theorem dX6_drawnNumber_31 : decode cX6_drawnNumber 31 = .ok (.ireturn, 1) := by decide +kernel
theorem dX7_init_0 : decode cX7_init 0 = .ok (.aload_n 0, 1) := by decide +kernel
theorem dX7_init_1 : decode cX7_init 1 = .ok (.invokespecial 1, 3) := by decide +kernel
theorem dX7_init_4 : decode cX7_init 4 = .ok (.aload_n 0, 1) := by decide +kernel
theorem dX7_init_5 : decode cX7_init 5 = .ok (.sipush 200, 3) := by decide +kernel
theorem dX7_init_8 : decode cX7_init 8 = .ok (.newarray .int, 2) := by decide +kernel
theorem dX7_init_10 : decode cX7_init 10 = .ok (.putfield 7, 3) := by decide +kernel
theorem dX7_init_13 : decode cX7_init 13 = .ok (.aload_n 0, 1) := by decide +kernel
theorem dX7_init_14 : decode cX7_init 14 = .ok (.sipush 1320, 3) := by decide +kernel
theorem dX7_init_17 : decode cX7_init 17 = .ok (.newarray .int, 2) := by decide +kernel
theorem dX7_init_19 : decode cX7_init 19 = .ok (.putfield 13, 3) := by decide +kernel
theorem dX7_init_22 : decode cX7_init 22 = .ok (.aload_n 0, 1) := by decide +kernel
theorem dX7_init_23 : decode cX7_init 23 = .ok (.sipush 1760, 3) := by decide +kernel
theorem dX7_init_26 : decode cX7_init 26 = .ok (.newarray .int, 2) := by decide +kernel
theorem dX7_init_28 : decode cX7_init 28 = .ok (.putfield 16, 3) := by decide +kernel
theorem dX7_init_31 : decode cX7_init 31 = .ok (.aload_n 0, 1) := by decide +kernel
theorem dX7_init_32 : decode cX7_init 32 = .ok (.iconst 4, 1) := by decide +kernel
theorem dX7_init_33 : decode cX7_init 33 = .ok (.newarray .int, 2) := by decide +kernel
theorem dX7_init_35 : decode cX7_init 35 = .ok (.putfield 19, 3) := by decide +kernel
theorem dX7_init_38 : decode cX7_init 38 = .ok (.aload_n 0, 1) := by decide +kernel
theorem dX7_init_39 : decode cX7_init 39 = .ok (.bipush 6, 2) := by decide +kernel
theorem dX7_init_41 : decode cX7_init 41 = .ok (.newarray .int, 2) := by decide +kernel
theorem dX7_init_43 : decode cX7_init 43 = .ok (.putfield 22, 3) := by decide +kernel
theorem dX7_init_46 : decode cX7_init 46 = .ok (.aload_n 0, 1) := by decide +kernel
theorem dX7_init_47 : decode cX7_init 47 = .ok (.bipush 6, 2) := by decide +kernel
theorem dX7_init_49 : decode cX7_init 49 = .ok (.newarray .int, 2) := by decide +kernel
theorem dX7_init_51 : decode cX7_init 51 = .ok (.putfield 25, 3) := by decide +kernel
theorem dX7_init_54 : decode cX7_init 54 = .ok (.aload_n 0, 1) := by decide +kernel
theorem dX7_init_55 : decode cX7_init 55 = .ok (.bipush 6, 2) := by decide +kernel
theorem dX7_init_57 : decode cX7_init 57 = .ok (.newarray .int, 2) := by decide +kernel
theorem dX7_init_59 : decode cX7_init 59 = .ok (.putfield 28, 3) := by decide +kernel
theorem dX7_init_62 : decode cX7_init 62 = .ok (.aload_n 0, 1) := by decide +kernel
theorem dX7_init_63 : decode cX7_init 63 = .ok (.bipush 6, 2) := by decide +kernel
theorem dX7_init_65 : decode cX7_init 65 = .ok (.newarray .int, 2) := by decide +kernel
theorem dX7_init_67 : decode cX7_init 67 = .ok (.putfield 31, 3) := by decide +kernel
theorem dX7_init_70 : decode cX7_init 70 = .ok (.aload_n 0, 1) := by decide +kernel
theorem dX7_init_71 : decode cX7_init 71 = .ok (.invokevirtual 34, 3) := by decide +kernel
theorem dX7_init_74 : decode cX7_init 74 = .ok (.aload_n 0, 1) := by decide +kernel
theorem dX7_init_75 : decode cX7_init 75 = .ok (.iconst 4, 1) := by decide +kernel
theorem dX7_init_76 : decode cX7_init 76 = .ok (.putfield 37, 3) := by decide +kernel
theorem dX7_init_79 : decode cX7_init 79 = .ok (.aload_n 0, 1) := by decide +kernel
theorem dX7_init_80 : decode cX7_init 80 = .ok (.iconst 2, 1) := by decide +kernel
theorem dX7_init_81 : decode cX7_init 81 = .ok (.iconst 0, 1) := by decide +kernel
theorem dX7_init_82 : decode cX7_init 82 = .ok (.iconst 1, 1) := by decide +kernel
theorem dX7_init_83 : decode cX7_init 83 = .ok (.invokevirtual 41, 3) := by decide +kernel
theorem dX7_init_86 : decode cX7_init 86 = .ok (.aload_n 0, 1) := by decide +kernel
theorem dX7_init_87 : decode cX7_init 87 = .ok (.iconst 2, 1) := by decide +kernel
theorem dX7_init_88 : decode cX7_init 88 = .ok (.iconst 1, 1) := by decide +kernel
theorem dX7_init_89 : decode cX7_init 89 = .ok (.iconst 2, 1) := by decide +kernel
theorem dX7_init_90 : decode cX7_init 90 = .ok (.invokevirtual 41, 3) := by decide +kernel
theorem dX7_init_93 : decode cX7_init 93 = .ok (.aload_n 0, 1) := by decide +kernel
theorem dX7_init_94 : decode cX7_init 94 = .ok (.iconst 2, 1) := by decide +kernel
theorem dX7_init_95 : decode cX7_init 95 = .ok (.iconst 2, 1) := by decide +kernel
theorem dX7_init_96 : decode cX7_init 96 = .ok (.iconst 3, 1) := by decide +kernel
theorem dX7_init_97 : decode cX7_init 97 = .ok (.invokevirtual 41, 3) := by decide +kernel
theorem dX7_init_100 : decode cX7_init 100 = .ok (.aload_n 0, 1) := by decide +kernel
theorem dX7_init_101 : decode cX7_init 101 = .ok (.iconst 2, 1) := by decide +kernel
theorem dX7_init_102 : decode cX7_init 102 = .ok (.iconst 0, 1) := by decide +kernel
theorem dX7_init_103 : decode cX7_init 103 = .ok (.iconst 1, 1) := by decide +kernel
theorem dX7_init_104 : decode cX7_init 104 = .ok (.iconst 5, 1) := by decide +kernel
theorem dX7_init_105 : decode cX7_init 105 = .ok (.invokevirtual 45, 3) := by decide +kernel
theorem dX7_init_108 : decode cX7_init 108 = .ok (.aload_n 0, 1) := by decide +kernel
theorem dX7_init_109 : decode cX7_init 109 = .ok (.iconst 2, 1) := by decide +kernel
theorem dX7_init_110 : decode cX7_init 110 = .ok (.iconst 2, 1) := by decide +kernel
theorem dX7_init_111 : decode cX7_init 111 = .ok (.iconst 1, 1) := by decide +kernel
theorem dX7_init_112 : decode cX7_init 112 = .ok (.iconst 5, 1) := by decide +kernel
theorem dX7_init_113 : decode cX7_init 113 = .ok (.invokevirtual 45, 3) := by decide +kernel
theorem dX7_init_116 : decode cX7_init 116 = .ok (.aload_n 0, 1) := by decide +kernel
theorem dX7_init_117 : decode cX7_init 117 = .ok (.iconst 2, 1) := by decide +kernel
theorem dX7_init_118 : decode cX7_init 118 = .ok (.iconst 3, 1) := by decide +kernel
theorem dX7_init_119 : decode cX7_init 119 = .ok (.iconst 2, 1) := by decide +kernel
theorem dX7_init_120 : decode cX7_init 120 = .ok (.iconst 1, 1) := by decide +kernel
theorem dX7_init_121 : decode cX7_init 121 = .ok (.invokevirtual 45, 3) := by decide +kernel
theorem dX7_init_124 : decode cX7_init 124 = .ok (.aload_n 0, 1) := by decide +kernel
theorem dX7_init_125 : decode cX7_init 125 = .ok (.iconst 2, 1) := by decide +kernel
theorem dX7_init_126 : decode cX7_init 126 = .ok (.iconst 1, 1) := by decide +kernel
theorem dX7_init_127 : decode cX7_init 127 = .ok (.iconst 0, 1) := by decide +kernel
theorem dX7_init_128 : decode cX7_init 128 = .ok (.iconst 2, 1) := by decide +kernel
theorem dX7_init_129 : decode cX7_init 129 = .ok (.invokevirtual 45, 3) := by decide +kernel
theorem dX7_init_132 : decode cX7_init 132 = .ok (.aload_n 0, 1) := by decide +kernel
theorem dX7_init_133 : decode cX7_init 133 = .ok (.invokevirtual 49, 3) := by decide +kernel
theorem dX7_init_136 : decode cX7_init 136 = .ok (.return_, 1) := by decide +kernel
theorem dX7_isIn_0 : decode cX7_isIn 0 = .ok (.iload_n 0, 1) := by decide +kernel
theorem dX7_isIn_1 : decode cX7_isIn 1 = .ok (.iload_n 1, 1) := by decide +kernel
theorem dX7_isIn_2 : decode cX7_isIn 2 = .ok (.if_icmp .lt 12, 3) := by decide +kernel
theorem dX7_isIn_5 : decode cX7_isIn 5 = .ok (.iload_n 0, 1) := by decide +kernel
