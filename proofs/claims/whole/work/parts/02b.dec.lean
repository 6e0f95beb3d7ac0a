theorem dX3_readItem_57 : decode cX3_readItem 57 = .ok (.aload_n 0, 1) := by decide +kernel
theorem dX3_readItem_58 : decode cX3_readItem 58 = .ok (.getfield 19, 3) := by decide +kernel
theorem dX3_readItem_61 : decode cX3_readItem 61 = .ok (.getfield 56, 3) := by decide +kernel
theorem dX3_readItem_64 : decode cX3_readItem 64 = .ok (.ifCond .le 33, 3) := by decide +kernel
theorem dX3_readItem_67 : decode cX3_readItem 67 = .ok (.aload_n 0, 1) := by decide +kernel
theorem dX3_readItem_68 : decode cX3_readItem 68 = .ok (.iload_n 1, 1) := by decide +kernel
theorem dX3_readItem_69 : decode cX3_readItem 69 = .ok (.aload_n 0, 1) := by decide +kernel
theorem dX3_readItem_70 : decode cX3_readItem 70 = .ok (.getfield 11, 3) := by decide +kernel
theorem dX3_readItem_73 : decode cX3_readItem 73 = .ok (.iconst 0, 1) := by decide +kernel
theorem dX3_readItem_74 : decode cX3_readItem 74 = .ok (.iaload, 1) := by decide +kernel
theorem dX3_readItem_75 : decode cX3_readItem 75 = .ok (.aload_n 0, 1) := by decide +kernel
theorem dX3_readItem_76 : decode cX3_readItem 76 = .ok (.getfield 11, 3) := by decide +kernel
theorem dX3_readItem_79 : decode cX3_readItem 79 = .ok (.iconst 1, 1) := by decide +kernel
theorem dX3_readItem_80 : decode cX3_readItem 80 = .ok (.iaload, 1) := by decide +kernel
theorem dX3_readItem_81 : decode cX3_readItem 81 = .ok (.aload_n 0, 1) := by decide +kernel
theorem dX3_readItem_82 : decode cX3_readItem 82 = .ok (.getfield 11, 3) := by decide +kernel
theorem dX3_readItem_85 : decode cX3_readItem 85 = .ok (.iconst 2, 1) := by decide +kernel
theorem dX3_readItem_86 : decode cX3_readItem 86 = .ok (.iaload, 1) := by decide +kernel
theorem dX3_readItem_87 : decode cX3_readItem 87 = .ok (.invokevirtual 59, 3) := by decide +kernel
theorem dX3_readItem_90 : decode cX3_readItem 90 = .ok (.ifCond .eq 7, 3) := by decide +kernel
theorem dX3_readItem_93 : decode cX3_readItem 93 = .ok (.iconst 1, 1) := by decide +kernel
theorem dX3_readItem_94 : decode cX3_readItem 94 = .ok (.goto 4, 3) := by decide +kernel
theorem dX3_readItem_97 : decode cX3_readItem 97 = .ok (.iconst 0, 1) := by decide +kernel
theorem dX3_readItem_98 : decode cX3_readItem 98 = .ok (.ireturn, 1) := by decide +kernel
theorem dX3_numbersBehind_0 : decode cX3_numbersBehind 0 = .ok (.iload_n 1, 1) := by decide +kernel
theorem dX3_numbersBehind_1 : decode cX3_numbersBehind 1 = .ok (.tableswitch 97 104 122 #[93, 97, 97, 97, 95, 97, 91, 97, 97, 97, 97, 97, 93, 97, 97, 93, 97, 97, 91], 91) := by decide +kernel
theorem dX3_numbersBehind_92 : decode cX3_numbersBehind 92 = .ok (.iconst 1, 1) := by decide +kernel
theorem dX3_numbersBehind_93 : decode cX3_numbersBehind 93 = .ok (.ireturn, 1) := by decide +kernel
theorem dX3_numbersBehind_94 : decode cX3_numbersBehind 94 = .ok (.iconst 2, 1) := by decide +kernel
theorem dX3_numbersBehind_95 : decode cX3_numbersBehind 95 = .ok (.ireturn, 1) := by decide +kernel
theorem dX3_numbersBehind_96 : decode cX3_numbersBehind 96 = .ok (.iconst 3, 1) := by decide +kernel
theorem dX3_numbersBehind_97 : decode cX3_numbersBehind 97 = .ok (.ireturn, 1) := by decide +kernel
theorem dX3_numbersBehind_98 : decode cX3_numbersBehind 98 = .ok (.iconst 0, 1) := by decide +kernel
theorem dX3_numbersBehind_99 : decode cX3_numbersBehind 99 = .ok (.ireturn, 1) := by decide +kernel
theorem dX3_readNumbers_0 : decode cX3_readNumbers 0 = .ok (.iconst 0, 1) := by decide +kernel
theorem dX3_readNumbers_1 : decode cX3_readNumbers 1 = .ok (.istore_n 2, 1) := by decide +kernel
theorem dX3_readNumbers_2 : decode cX3_readNumbers 2 = .ok (.iload_n 2, 1) := by decide +kernel
theorem dX3_readNumbers_3 : decode cX3_readNumbers 3 = .ok (.iload_n 1, 1) := by decide +kernel
theorem dX3_readNumbers_4 : decode cX3_readNumbers 4 = .ok (.if_icmp .ge 47, 3) := by decide +kernel
theorem dX3_readNumbers_7 : decode cX3_readNumbers 7 = .ok (.iload_n 2, 1) := by decide +kernel
theorem dX3_readNumbers_8 : decode cX3_readNumbers 8 = .ok (.iconst 3, 1) := by decide +kernel
theorem dX3_readNumbers_9 : decode cX3_readNumbers 9 = .ok (.if_icmp .ge 42, 3) := by decide +kernel
theorem dX3_readNumbers_12 : decode cX3_readNumbers 12 = .ok (.iload_n 2, 1) := by decide +kernel
theorem dX3_readNumbers_13 : decode cX3_readNumbers 13 = .ok (.iload_n 1, 1) := by decide +kernel
theorem dX3_readNumbers_14 : decode cX3_readNumbers 14 = .ok (.iconst 1, 1) := by decide +kernel
theorem dX3_readNumbers_15 : decode cX3_readNumbers 15 = .ok (.isub, 1) := by decide +kernel
theorem dX3_readNumbers_16 : decode cX3_readNumbers 16 = .ok (.if_icmp .ne 8, 3) := by decide +kernel
theorem dX3_readNumbers_19 : decode cX3_readNumbers 19 = .ok (.bipush 59, 2) := by decide +kernel
theorem dX3_readNumbers_21 : decode cX3_readNumbers 21 = .ok (.goto 5, 3) := by decide +kernel
theorem dX3_readNumbers_24 : decode cX3_readNumbers 24 = .ok (.bipush 44, 2) := by decide +kernel
theorem dX3_readNumbers_26 : decode cX3_readNumbers 26 = .ok (.istore_n 3, 1) := by decide +kernel
theorem dX3_readNumbers_27 : decode cX3_readNumbers 27 = .ok (.aload_n 0, 1) := by decide +kernel
theorem dX3_readNumbers_28 : decode cX3_readNumbers 28 = .ok (.iload_n 2, 1) := by decide +kernel
theorem dX3_readNumbers_29 : decode cX3_readNumbers 29 = .ok (.invokevirtual 63, 3) := by decide +kernel
theorem dX3_readNumbers_32 : decode cX3_readNumbers 32 = .ok (.ifCond .eq 11, 3) := by decide +kernel
theorem dX3_readNumbers_35 : decode cX3_readNumbers 35 = .ok (.aload_n 0, 1) := by decide +kernel
theorem dX3_readNumbers_36 : decode cX3_readNumbers 36 = .ok (.iload_n 3, 1) := by decide +kernel
theorem dX3_readNumbers_37 : decode cX3_readNumbers 37 = .ok (.invokevirtual 66, 3) := by decide +kernel
theorem dX3_readNumbers_40 : decode cX3_readNumbers 40 = .ok (.ifCond .ne 5, 3) := by decide +kernel
theorem dX3_readNumbers_43 : decode cX3_readNumbers 43 = .ok (.iconst 0, 1) := by decide +kernel
theorem dX3_readNumbers_44 : decode cX3_readNumbers 44 = .ok (.ireturn, 1) := by decide +kernel
theorem dX3_readNumbers_45 : decode cX3_readNumbers 45 = .ok (.iinc 2 1, 3) := by decide +kernel
theorem dX3_readNumbers_48 : decode cX3_readNumbers 48 = .ok (.goto (-46), 3) := by decide +kernel
theorem dX3_readNumbers_51 : decode cX3_readNumbers 51 = .ok (.iconst 1, 1) := by decide +kernel
theorem dX3_readNumbers_52 : decode cX3_readNumbers 52 = .ok (.ireturn, 1) := by decide +kernel
theorem dX3_readNumber_0 : decode cX3_readNumber 0 = .ok (.iconst 0, 1) := by decide +kernel
theorem dX3_readNumber_1 : decode cX3_readNumber 1 = .ok (.istore_n 2, 1) := by decide +kernel
theorem dX3_readNumber_2 : decode cX3_readNumber 2 = .ok (.iconst 0, 1) := by decide +kernel
theorem dX3_readNumber_3 : decode cX3_readNumber 3 = .ok (.istore_n 3, 1) := by decide +kernel
theorem dX3_readNumber_4 : decode cX3_readNumber 4 = .ok (.iload_n 3, 1) := by decide +kernel
theorem dX3_readNumber_5 : decode cX3_readNumber 5 = .ok (.iconst 4, 1) := by decide +kernel
theorem dX3_readNumber_6 : decode cX3_readNumber 6 = .ok (.if_icmp .ge 76, 3) := by decide +kernel
theorem dX3_readNumber_9 : decode cX3_readNumber 9 = .ok (.aload_n 0, 1) := by decide +kernel
theorem dX3_readNumber_10 : decode cX3_readNumber 10 = .ok (.getfield 38, 3) := by decide +kernel
theorem dX3_readNumber_13 : decode cX3_readNumber 13 = .ok (.aload_n 0, 1) := by decide +kernel
theorem dX3_readNumber_14 : decode cX3_readNumber 14 = .ok (.getfield 34, 3) := by decide +kernel
theorem dX3_readNumber_17 : decode cX3_readNumber 17 = .ok (.if_icmp .ge 65, 3) := by decide +kernel
theorem dX3_readNumber_20 : decode cX3_readNumber 20 = .ok (.aload_n 0, 1) := by decide +kernel
theorem dX3_readNumber_21 : decode cX3_readNumber 21 = .ok (.getfield 15, 3) := by decide +kernel
theorem dX3_readNumber_24 : decode cX3_readNumber 24 = .ok (.aload_n 0, 1) := by decide +kernel
theorem dX3_readNumber_25 : decode cX3_readNumber 25 = .ok (.getfield 38, 3) := by decide +kernel
theorem dX3_readNumber_28 : decode cX3_readNumber 28 = .ok (.caload, 1) := by decide +kernel
theorem dX3_readNumber_29 : decode cX3_readNumber 29 = .ok (.bipush 48, 2) := by decide +kernel
theorem dX3_readNumber_31 : decode cX3_readNumber 31 = .ok (.if_icmp .lt 51, 3) := by decide +kernel
theorem dX3_readNumber_34 : decode cX3_readNumber 34 = .ok (.aload_n 0, 1) := by decide +kernel
theorem dX3_readNumber_35 : decode cX3_readNumber 35 = .ok (.getfield 15, 3) := by decide +kernel
theorem dX3_readNumber_38 : decode cX3_readNumber 38 = .ok (.aload_n 0, 1) := by decide +kernel
theorem dX3_readNumber_39 : decode cX3_readNumber 39 = .ok (.getfield 38, 3) := by decide +kernel
theorem dX3_readNumber_42 : decode cX3_readNumber 42 = .ok (.caload, 1) := by decide +kernel
theorem dX3_readNumber_43 : decode cX3_readNumber 43 = .ok (.bipush 57, 2) := by decide +kernel
theorem dX3_readNumber_45 : decode cX3_readNumber 45 = .ok (.if_icmp .gt 37, 3) := by decide +kernel
theorem dX3_readNumber_48 : decode cX3_readNumber 48 = .ok (.bipush 10, 2) := by decide +kernel
theorem dX3_readNumber_50 : decode cX3_readNumber 50 = .ok (.iload_n 2, 1) := by decide +kernel
theorem dX3_readNumber_51 : decode cX3_readNumber 51 = .ok (.imul, 1) := by decide +kernel
theorem dX3_readNumber_52 : decode cX3_readNumber 52 = .ok (.aload_n 0, 1) := by decide +kernel
theorem dX3_readNumber_53 : decode cX3_readNumber 53 = .ok (.getfield 15, 3) := by decide +kernel
theorem dX3_readNumber_56 : decode cX3_readNumber 56 = .ok (.aload_n 0, 1) := by decide +kernel
theorem dX3_readNumber_57 : decode cX3_readNumber 57 = .ok (.getfield 38, 3) := by decide +kernel
theorem dX3_readNumber_60 : decode cX3_readNumber 60 = .ok (.caload, 1) := by decide +kernel
theorem dX3_readNumber_61 : decode cX3_readNumber 61 = .ok (.bipush 48, 2) := by decide +kernel
theorem dX3_readNumber_63 : decode cX3_readNumber 63 = .ok (.isub, 1) := by decide +kernel
theorem dX3_readNumber_64 : decode cX3_readNumber 64 = .ok (.iadd, 1) := by decide +kernel
theorem dX3_readNumber_65 : decode cX3_readNumber 65 = .ok (.istore_n 2, 1) := by decide +kernel
theorem dX3_readNumber_66 : decode cX3_readNumber 66 = .ok (.iinc 3 1, 3) := by decide +kernel
theorem dX3_readNumber_69 : decode cX3_readNumber 69 = .ok (.aload_n 0, 1) := by decide +kernel
theorem dX3_readNumber_70 : decode cX3_readNumber 70 = .ok (.dup, 1) := by decide +kernel
theorem dX3_readNumber_71 : decode cX3_readNumber 71 = .ok (.getfield 38, 3) := by decide +kernel
theorem dX3_readNumber_74 : decode cX3_readNumber 74 = .ok (.iconst 1, 1) := by decide +kernel
theorem dX3_readNumber_75 : decode cX3_readNumber 75 = .ok (.iadd, 1) := by decide +kernel
theorem dX3_readNumber_76 : decode cX3_readNumber 76 = .ok (.putfield 38, 3) := by decide +kernel
theorem dX3_readNumber_79 : decode cX3_readNumber 79 = .ok (.goto (-75), 3) := by decide +kernel
theorem dX3_readNumber_82 : decode cX3_readNumber 82 = .ok (.aload_n 0, 1) := by decide +kernel
theorem dX3_readNumber_83 : decode cX3_readNumber 83 = .ok (.getfield 11, 3) := by decide +kernel
theorem dX3_readNumber_86 : decode cX3_readNumber 86 = .ok (.iload_n 1, 1) := by decide +kernel
theorem dX3_readNumber_87 : decode cX3_readNumber 87 = .ok (.iload_n 2, 1) := by decide +kernel
theorem dX3_readNumber_88 : decode cX3_readNumber 88 = .ok (.iastore, 1) := by decide +kernel
theorem dX3_readNumber_89 : decode cX3_readNumber 89 = .ok (.iload_n 3, 1) := by decide +kernel
theorem dX3_readNumber_90 : decode cX3_readNumber 90 = .ok (.ifCond .le 7, 3) := by decide +kernel
theorem dX3_readNumber_93 : decode cX3_readNumber 93 = .ok (.iconst 1, 1) := by decide +kernel
theorem dX3_readNumber_94 : decode cX3_readNumber 94 = .ok (.goto 4, 3) := by decide +kernel
theorem dX3_readNumber_97 : decode cX3_readNumber 97 = .ok (.iconst 0, 1) := by decide +kernel
theorem dX3_readNumber_98 : decode cX3_readNumber 98 = .ok (.ireturn, 1) := by decide +kernel
theorem dX3_readSign_0 : decode cX3_readSign 0 = .ok (.aload_n 0, 1) := by decide +kernel
theorem dX3_readSign_1 : decode cX3_readSign 1 = .ok (.getfield 38, 3) := by decide +kernel
theorem dX3_readSign_4 : decode cX3_readSign 4 = .ok (.aload_n 0, 1) := by decide +kernel
theorem dX3_readSign_5 : decode cX3_readSign 5 = .ok (.getfield 34, 3) := by decide +kernel
theorem dX3_readSign_8 : decode cX3_readSign 8 = .ok (.if_icmp .ge 16, 3) := by decide +kernel
theorem dX3_readSign_11 : decode cX3_readSign 11 = .ok (.aload_n 0, 1) := by decide +kernel
theorem dX3_readSign_12 : decode cX3_readSign 12 = .ok (.getfield 15, 3) := by decide +kernel
theorem dX3_readSign_15 : decode cX3_readSign 15 = .ok (.aload_n 0, 1) := by decide +kernel
theorem dX3_readSign_16 : decode cX3_readSign 16 = .ok (.getfield 38, 3) := by decide +kernel
theorem dX3_readSign_19 : decode cX3_readSign 19 = .ok (.caload, 1) := by decide +kernel
theorem dX3_readSign_20 : decode cX3_readSign 20 = .ok (.iload_n 1, 1) := by decide +kernel
theorem dX3_readSign_21 : decode cX3_readSign 21 = .ok (.if_icmp .eq 5, 3) := by decide +kernel
theorem dX3_readSign_24 : decode cX3_readSign 24 = .ok (.iconst 0, 1) := by decide +kernel
theorem dX3_readSign_25 : decode cX3_readSign 25 = .ok (.ireturn, 1) := by decide +kernel
theorem dX3_readSign_26 : decode cX3_readSign 26 = .ok (.aload_n 0, 1) := by decide +kernel
theorem dX3_readSign_27 : decode cX3_readSign 27 = .ok (.dup, 1) := by decide +kernel
theorem dX3_readSign_28 : decode cX3_readSign 28 = .ok (.getfield 38, 3) := by decide +kernel
theorem dX3_readSign_31 : decode cX3_readSign 31 = .ok (.iconst 1, 1) := by decide +kernel
theorem dX3_readSign_32 : decode cX3_readSign 32 = .ok (.iadd, 1) := by decide +kernel
theorem dX3_readSign_33 : decode cX3_readSign 33 = .ok (.putfield 38, 3) := by decide +kernel
theorem dX3_readSign_36 : decode cX3_readSign 36 = .ok (.iconst 1, 1) := by decide +kernel
theorem dX3_readSign_37 : decode cX3_readSign 37 = .ok (.ireturn, 1) := by decide +kernel
theorem dX3_setStations_0 : decode cX3_setStations 0 = .ok (.aload_n 0, 1) := by decide +kernel
theorem dX3_setStations_1 : decode cX3_setStations 1 = .ok (.getfield 19, 3) := by decide +kernel
theorem dX3_setStations_4 : decode cX3_setStations 4 = .ok (.getfield 56, 3) := by decide +kernel
theorem dX3_setStations_7 : decode cX3_setStations 7 = .ok (.ifCond .ne 14, 3) := by decide +kernel
theorem dX3_setStations_10 : decode cX3_setStations 10 = .ok (.iload_n 1, 1) := by decide +kernel
theorem dX3_setStations_11 : decode cX3_setStations 11 = .ok (.iconst 2, 1) := by decide +kernel
theorem dX3_setStations_12 : decode cX3_setStations 12 = .ok (.if_icmp .lt 9, 3) := by decide +kernel
theorem dX3_setStations_15 : decode cX3_setStations 15 = .ok (.iload_n 1, 1) := by decide +kernel
theorem dX3_setStations_16 : decode cX3_setStations 16 = .ok (.bipush 6, 2) := by decide +kernel
theorem dX3_setStations_18 : decode cX3_setStations 18 = .ok (.if_icmp .le 5, 3) := by decide +kernel
theorem dX3_setStations_21 : decode cX3_setStations 21 = .ok (.iconst 0, 1) := by decide +kernel
theorem dX3_setStations_22 : decode cX3_setStations 22 = .ok (.ireturn, 1) := by decide +kernel
theorem dX3_setStations_23 : decode cX3_setStations 23 = .ok (.aload_n 0, 1) := by decide +kernel
theorem dX3_setStations_24 : decode cX3_setStations 24 = .ok (.getfield 19, 3) := by decide +kernel
theorem dX3_setStations_27 : decode cX3_setStations 27 = .ok (.iload_n 1, 1) := by decide +kernel
theorem dX3_setStations_28 : decode cX3_setStations 28 = .ok (.putfield 56, 3) := by decide +kernel
theorem dX3_setStations_31 : decode cX3_setStations 31 = .ok (.iconst 1, 1) := by decide +kernel
theorem dX3_setStations_32 : decode cX3_setStations 32 = .ok (.ireturn, 1) := by decide +kernel
theorem dX3_applyItem_0 : decode cX3_applyItem 0 = .ok (.iload_n 1, 1) := by decide +kernel
theorem dX3_applyItem_1 : decode cX3_applyItem 1 = .ok (.lookupswitch 73 #[(104, 43), (108, 50), (116, 66), (119, 59)], 43) := by decide +kernel
theorem dX3_applyItem_44 : decode cX3_applyItem 44 = .ok (.aload_n 0, 1) := by decide +kernel
theorem dX3_applyItem_45 : decode cX3_applyItem 45 = .ok (.iload_n 2, 1) := by decide +kernel
theorem dX3_applyItem_46 : decode cX3_applyItem 46 = .ok (.iload_n 3, 1) := by decide +kernel
theorem dX3_applyItem_47 : decode cX3_applyItem 47 = .ok (.invokevirtual 70, 3) := by decide +kernel
theorem dX3_applyItem_50 : decode cX3_applyItem 50 = .ok (.ireturn, 1) := by decide +kernel
theorem dX3_applyItem_51 : decode cX3_applyItem 51 = .ok (.aload_n 0, 1) := by decide +kernel
theorem dX3_applyItem_52 : decode cX3_applyItem 52 = .ok (.iload_n 2, 1) := by decide +kernel
theorem dX3_applyItem_53 : decode cX3_applyItem 53 = .ok (.iload_n 3, 1) := by decide +kernel
theorem dX3_applyItem_54 : decode cX3_applyItem 54 = .ok (.iload 4, 2) := by decide +kernel
theorem dX3_applyItem_56 : decode cX3_applyItem 56 = .ok (.invokevirtual 74, 3) := by decide +kernel
theorem dX3_applyItem_59 : decode cX3_applyItem 59 = .ok (.ireturn, 1) := by decide +kernel
theorem dX3_applyItem_60 : decode cX3_applyItem 60 = .ok (.aload_n 0, 1) := by decide +kernel
theorem dX3_applyItem_61 : decode cX3_applyItem 61 = .ok (.iload_n 2, 1) := by decide +kernel
theorem dX3_applyItem_62 : decode cX3_applyItem 62 = .ok (.iload_n 3, 1) := by decide +kernel
theorem dX3_applyItem_63 : decode cX3_applyItem 63 = .ok (.invokevirtual 78, 3) := by decide +kernel
theorem dX3_applyItem_66 : decode cX3_applyItem 66 = .ok (.ireturn, 1) := by decide +kernel
theorem dX3_applyItem_67 : decode cX3_applyItem 67 = .ok (.aload_n 0, 1) := by decide +kernel
theorem dX3_applyItem_68 : decode cX3_applyItem 68 = .ok (.iload_n 2, 1) := by decide +kernel
theorem dX3_applyItem_69 : decode cX3_applyItem 69 = .ok (.iload_n 3, 1) := by decide +kernel
theorem dX3_applyItem_70 : decode cX3_applyItem 70 = .ok (.invokevirtual 81, 3) := by decide +kernel
theorem dX3_applyItem_73 : decode cX3_applyItem 73 = .ok (.ireturn, 1) := by decide +kernel
theorem dX3_applyItem_74 : decode cX3_applyItem 74 = .ok (.aload_n 0, 1) := by decide +kernel
theorem dX3_applyItem_75 : decode cX3_applyItem 75 = .ok (.iload_n 2, 1) := by decide +kernel
theorem dX3_applyItem_76 : decode cX3_applyItem 76 = .ok (.invokevirtual 84, 3) := by decide +kernel
theorem dX3_applyItem_79 : decode cX3_applyItem 79 = .ok (.ireturn, 1) := by decide +kernel
theorem dX3_arePair_0 : decode cX3_arePair 0 = .ok (.iload_n 1, 1) := by decide +kernel
theorem dX3_arePair_1 : decode cX3_arePair 1 = .ok (.ifCond .lt 38, 3) := by decide +kernel
theorem dX3_arePair_4 : decode cX3_arePair 4 = .ok (.iload_n 1, 1) := by decide +kernel
theorem dX3_arePair_5 : decode cX3_arePair 5 = .ok (.aload_n 0, 1) := by decide +kernel
theorem dX3_arePair_6 : decode cX3_arePair 6 = .ok (.getfield 19, 3) := by decide +kernel
theorem dX3_arePair_9 : decode cX3_arePair 9 = .ok (.getfield 56, 3) := by decide +kernel
theorem dX3_arePair_12 : decode cX3_arePair 12 = .ok (.if_icmp .ge 27, 3) := by decide +kernel
theorem dX3_arePair_15 : decode cX3_arePair 15 = .ok (.iload_n 2, 1) := by decide +kernel
theorem dX3_arePair_16 : decode cX3_arePair 16 = .ok (.ifCond .lt 23, 3) := by decide +kernel
theorem dX3_arePair_19 : decode cX3_arePair 19 = .ok (.iload_n 2, 1) := by decide +kernel
theorem dX3_arePair_20 : decode cX3_arePair 20 = .ok (.aload_n 0, 1) := by decide +kernel
theorem dX3_arePair_21 : decode cX3_arePair 21 = .ok (.getfield 19, 3) := by decide +kernel
theorem dX3_arePair_24 : decode cX3_arePair 24 = .ok (.getfield 56, 3) := by decide +kernel
theorem dX3_arePair_27 : decode cX3_arePair 27 = .ok (.if_icmp .ge 12, 3) := by decide +kernel
theorem dX3_arePair_30 : decode cX3_arePair 30 = .ok (.iload_n 1, 1) := by decide +kernel
theorem dX3_arePair_31 : decode cX3_arePair 31 = .ok (.iload_n 2, 1) := by decide +kernel
theorem dX3_arePair_32 : decode cX3_arePair 32 = .ok (.if_icmp .eq 7, 3) := by decide +kernel
theorem dX3_arePair_35 : decode cX3_arePair 35 = .ok (.iconst 1, 1) := by decide +kernel
theorem dX3_arePair_36 : decode cX3_arePair 36 = .ok (.goto 4, 3) := by decide +kernel
theorem dX3_arePair_39 : decode cX3_arePair 39 = .ok (.iconst 0, 1) := by decide +kernel
theorem dX3_arePair_40 : decode cX3_arePair 40 = .ok (.ireturn, 1) := by decide +kernel
theorem dX3_applyHear_0 : decode cX3_applyHear 0 = .ok (.aload_n 0, 1) := by decide +kernel
theorem dX3_applyHear_1 : decode cX3_applyHear 1 = .ok (.iload_n 1, 1) := by decide +kernel
theorem dX3_applyHear_2 : decode cX3_applyHear 2 = .ok (.iload_n 2, 1) := by decide +kernel
theorem dX3_applyHear_3 : decode cX3_applyHear 3 = .ok (.invokevirtual 87, 3) := by decide +kernel
theorem dX3_applyHear_6 : decode cX3_applyHear 6 = .ok (.ifCond .ne 5, 3) := by decide +kernel
theorem dX3_applyHear_9 : decode cX3_applyHear 9 = .ok (.iconst 0, 1) := by decide +kernel
theorem dX3_applyHear_10 : decode cX3_applyHear 10 = .ok (.ireturn, 1) := by decide +kernel
theorem dX3_applyHear_11 : decode cX3_applyHear 11 = .ok (.aload_n 0, 1) := by decide +kernel
theorem dX3_applyHear_12 : decode cX3_applyHear 12 = .ok (.getfield 19, 3) := by decide +kernel
theorem dX3_applyHear_15 : decode cX3_applyHear 15 = .ok (.iload_n 1, 1) := by decide +kernel
theorem dX3_applyHear_16 : decode cX3_applyHear 16 = .ok (.iload_n 2, 1) := by decide +kernel
theorem dX3_applyHear_17 : decode cX3_applyHear 17 = .ok (.iconst 1, 1) := by decide +kernel
theorem dX3_applyHear_18 : decode cX3_applyHear 18 = .ok (.invokevirtual 90, 3) := by decide +kernel
theorem dX3_applyHear_21 : decode cX3_applyHear 21 = .ok (.iconst 1, 1) := by decide +kernel
theorem dX3_applyHear_22 : decode cX3_applyHear 22 = .ok (.ireturn, 1) := by decide +kernel
theorem dX3_applyLetter_0 : decode cX3_applyLetter 0 = .ok (.aload_n 0, 1) := by decide +kernel
theorem dX3_applyLetter_1 : decode cX3_applyLetter 1 = .ok (.iload_n 1, 1) := by decide +kernel
theorem dX3_applyLetter_2 : decode cX3_applyLetter 2 = .ok (.iload_n 2, 1) := by decide +kernel
theorem dX3_applyLetter_3 : decode cX3_applyLetter 3 = .ok (.invokevirtual 87, 3) := by decide +kernel
theorem dX3_applyLetter_6 : decode cX3_applyLetter 6 = .ok (.ifCond .eq 26, 3) := by decide +kernel
theorem dX3_applyLetter_9 : decode cX3_applyLetter 9 = .ok (.iload_n 3, 1) := by decide +kernel
theorem dX3_applyLetter_10 : decode cX3_applyLetter 10 = .ok (.iconst 1, 1) := by decide +kernel
theorem dX3_applyLetter_11 : decode cX3_applyLetter 11 = .ok (.if_icmp .lt 21, 3) := by decide +kernel
theorem dX3_applyLetter_14 : decode cX3_applyLetter 14 = .ok (.iload_n 3, 1) := by decide +kernel
theorem dX3_applyLetter_15 : decode cX3_applyLetter 15 = .ok (.bipush 9, 2) := by decide +kernel
theorem dX3_applyLetter_17 : decode cX3_applyLetter 17 = .ok (.if_icmp .gt 15, 3) := by decide +kernel
theorem dX3_applyLetter_20 : decode cX3_applyLetter 20 = .ok (.aload_n 0, 1) := by decide +kernel
theorem dX3_applyLetter_21 : decode cX3_applyLetter 21 = .ok (.getfield 19, 3) := by decide +kernel
theorem dX3_applyLetter_24 : decode cX3_applyLetter 24 = .ok (.iload_n 1, 1) := by decide +kernel
theorem dX3_applyLetter_25 : decode cX3_applyLetter 25 = .ok (.iload_n 2, 1) := by decide +kernel
theorem dX3_applyLetter_26 : decode cX3_applyLetter 26 = .ok (.invokevirtual 94, 3) := by decide +kernel
theorem dX3_applyLetter_29 : decode cX3_applyLetter 29 = .ok (.ifCond .ne 5, 3) := by decide +kernel
theorem dX3_applyLetter_32 : decode cX3_applyLetter 32 = .ok (.iconst 0, 1) := by decide +kernel
theorem dX3_applyLetter_33 : decode cX3_applyLetter 33 = .ok (.ireturn, 1) := by decide +kernel
theorem dX3_applyLetter_34 : decode cX3_applyLetter 34 = .ok (.aload_n 0, 1) := by decide +kernel
theorem dX3_applyLetter_35 : decode cX3_applyLetter 35 = .ok (.getfield 19, 3) := by decide +kernel
theorem dX3_applyLetter_38 : decode cX3_applyLetter 38 = .ok (.getfield 97, 3) := by decide +kernel
theorem dX3_applyLetter_41 : decode cX3_applyLetter 41 = .ok (.iload_n 1, 1) := by decide +kernel
theorem dX3_applyLetter_42 : decode cX3_applyLetter 42 = .ok (.aaload, 1) := by decide +kernel
theorem dX3_applyLetter_43 : decode cX3_applyLetter 43 = .ok (.getfield 101, 3) := by decide +kernel
theorem dX3_applyLetter_46 : decode cX3_applyLetter 46 = .ok (.astore 4, 2) := by decide +kernel
theorem dX3_applyLetter_48 : decode cX3_applyLetter 48 = .ok (.aload 4, 2) := by decide +kernel
theorem dX3_applyLetter_50 : decode cX3_applyLetter 50 = .ok (.getfield 107, 3) := by decide +kernel
theorem dX3_applyLetter_53 : decode cX3_applyLetter 53 = .ok (.bipush 6, 2) := by decide +kernel
theorem dX3_applyLetter_55 : decode cX3_applyLetter 55 = .ok (.if_icmp .lt 5, 3) := by decide +kernel
theorem dX3_applyLetter_58 : decode cX3_applyLetter 58 = .ok (.iconst 0, 1) := by decide +kernel
theorem dX3_applyLetter_59 : decode cX3_applyLetter 59 = .ok (.ireturn, 1) := by decide +kernel
theorem dX3_applyLetter_60 : decode cX3_applyLetter 60 = .ok (.aload 4, 2) := by decide +kernel
theorem dX3_applyLetter_62 : decode cX3_applyLetter 62 = .ok (.iload_n 2, 1) := by decide +kernel
theorem dX3_applyLetter_63 : decode cX3_applyLetter 63 = .ok (.iload_n 3, 1) := by decide +kernel
theorem dX3_applyLetter_64 : decode cX3_applyLetter 64 = .ok (.invokevirtual 112, 3) := by decide +kernel
theorem dX3_applyLetter_67 : decode cX3_applyLetter 67 = .ok (.iconst 1, 1) := by decide +kernel
theorem dX3_applyLetter_68 : decode cX3_applyLetter 68 = .ok (.ireturn, 1) := by decide +kernel
theorem dX3_applyWindows_0 : decode cX3_applyWindows 0 = .ok (.iload_n 1, 1) := by decide +kernel
theorem dX3_applyWindows_1 : decode cX3_applyWindows 1 = .ok (.iconst 1, 1) := by decide +kernel
theorem dX3_applyWindows_2 : decode cX3_applyWindows 2 = .ok (.if_icmp .lt 20, 3) := by decide +kernel
theorem dX3_applyWindows_5 : decode cX3_applyWindows 5 = .ok (.iload_n 1, 1) := by decide +kernel
theorem dX3_applyWindows_6 : decode cX3_applyWindows 6 = .ok (.bipush 16, 2) := by decide +kernel
theorem dX3_applyWindows_8 : decode cX3_applyWindows 8 = .ok (.if_icmp .gt 14, 3) := by decide +kernel
theorem dX3_applyWindows_11 : decode cX3_applyWindows 11 = .ok (.iload_n 2, 1) := by decide +kernel
theorem dX3_applyWindows_12 : decode cX3_applyWindows 12 = .ok (.iload_n 1, 1) := by decide +kernel
theorem dX3_applyWindows_13 : decode cX3_applyWindows 13 = .ok (.if_icmp .lt 9, 3) := by decide +kernel
theorem dX3_applyWindows_16 : decode cX3_applyWindows 16 = .ok (.iload_n 2, 1) := by decide +kernel
theorem dX3_applyWindows_17 : decode cX3_applyWindows 17 = .ok (.bipush 64, 2) := by decide +kernel
theorem dX3_applyWindows_19 : decode cX3_applyWindows 19 = .ok (.if_icmp .le 5, 3) := by decide +kernel
theorem dX3_applyWindows_22 : decode cX3_applyWindows 22 = .ok (.iconst 0, 1) := by decide +kernel
theorem dX3_applyWindows_23 : decode cX3_applyWindows 23 = .ok (.ireturn, 1) := by decide +kernel
theorem dX3_applyWindows_24 : decode cX3_applyWindows 24 = .ok (.aload_n 0, 1) := by decide +kernel
theorem dX3_applyWindows_25 : decode cX3_applyWindows 25 = .ok (.getfield 19, 3) := by decide +kernel
theorem dX3_applyWindows_28 : decode cX3_applyWindows 28 = .ok (.iload_n 1, 1) := by decide +kernel
theorem dX3_applyWindows_29 : decode cX3_applyWindows 29 = .ok (.putfield 116, 3) := by decide +kernel
theorem dX3_applyWindows_32 : decode cX3_applyWindows 32 = .ok (.aload_n 0, 1) := by decide +kernel
theorem dX3_applyWindows_33 : decode cX3_applyWindows 33 = .ok (.getfield 19, 3) := by decide +kernel
theorem dX3_applyWindows_36 : decode cX3_applyWindows 36 = .ok (.iload_n 2, 1) := by decide +kernel
theorem dX3_applyWindows_37 : decode cX3_applyWindows 37 = .ok (.putfield 119, 3) := by decide +kernel
theorem dX3_applyWindows_40 : decode cX3_applyWindows 40 = .ok (.iconst 1, 1) := by decide +kernel
theorem dX3_applyWindows_41 : decode cX3_applyWindows 41 = .ok (.ireturn, 1) := by decide +kernel
theorem dX3_applyTries_0 : decode cX3_applyTries 0 = .ok (.iload_n 1, 1) := by decide +kernel
theorem dX3_applyTries_1 : decode cX3_applyTries 1 = .ok (.iconst 1, 1) := by decide +kernel
theorem dX3_applyTries_2 : decode cX3_applyTries 2 = .ok (.if_icmp .lt 20, 3) := by decide +kernel
theorem dX3_applyTries_5 : decode cX3_applyTries 5 = .ok (.iload_n 1, 1) := by decide +kernel
theorem dX3_applyTries_6 : decode cX3_applyTries 6 = .ok (.bipush 10, 2) := by decide +kernel
theorem dX3_applyTries_8 : decode cX3_applyTries 8 = .ok (.if_icmp .gt 14, 3) := by decide +kernel
theorem dX3_applyTries_11 : decode cX3_applyTries 11 = .ok (.iload_n 2, 1) := by decide +kernel
theorem dX3_applyTries_12 : decode cX3_applyTries 12 = .ok (.iconst 1, 1) := by decide +kernel
theorem dX3_applyTries_13 : decode cX3_applyTries 13 = .ok (.if_icmp .lt 9, 3) := by decide +kernel
theorem dX3_applyTries_16 : decode cX3_applyTries 16 = .ok (.iload_n 2, 1) := by decide +kernel
theorem dX3_applyTries_17 : decode cX3_applyTries 17 = .ok (.bipush 7, 2) := by decide +kernel
theorem dX3_applyTries_19 : decode cX3_applyTries 19 = .ok (.if_icmp .le 5, 3) := by decide +kernel
theorem dX3_applyTries_22 : decode cX3_applyTries 22 = .ok (.iconst 0, 1) := by decide +kernel
theorem dX3_applyTries_23 : decode cX3_applyTries 23 = .ok (.ireturn, 1) := by decide +kernel
theorem dX3_applyTries_24 : decode cX3_applyTries 24 = .ok (.aload_n 0, 1) := by decide +kernel
theorem dX3_applyTries_25 : decode cX3_applyTries 25 = .ok (.getfield 19, 3) := by decide +kernel
theorem dX3_applyTries_28 : decode cX3_applyTries 28 = .ok (.iload_n 1, 1) := by decide +kernel
theorem dX3_applyTries_29 : decode cX3_applyTries 29 = .ok (.putfield 122, 3) := by decide +kernel
theorem dX3_applyTries_32 : decode cX3_applyTries 32 = .ok (.aload_n 0, 1) := by decide +kernel
theorem dX3_applyTries_33 : decode cX3_applyTries 33 = .ok (.getfield 19, 3) := by decide +kernel
theorem dX3_applyTries_36 : decode cX3_applyTries 36 = .ok (.iload_n 2, 1) := by decide +kernel
theorem dX3_applyTries_37 : decode cX3_applyTries 37 = .ok (.putfield 125, 3) := by decide +kernel
theorem dX3_applyTries_40 : decode cX3_applyTries 40 = .ok (.iconst 1, 1) := by decide +kernel
theorem dX3_applyTries_41 : decode cX3_applyTries 41 = .ok (.ireturn, 1) := by decide +kernel
theorem dX3_applySeed_0 : decode cX3_applySeed 0 = .ok (.iload_n 1, 1) := by decide +kernel
theorem dX3_applySeed_1 : decode cX3_applySeed 1 = .ok (.ifCond .lt 10, 3) := by decide +kernel
theorem dX3_applySeed_4 : decode cX3_applySeed 4 = .ok (.iload_n 1, 1) := by decide +kernel
theorem dX3_applySeed_5 : decode cX3_applySeed 5 = .ok (.sipush 9999, 3) := by decide +kernel
theorem dX3_applySeed_8 : decode cX3_applySeed 8 = .ok (.if_icmp .le 5, 3) := by decide +kernel
theorem dX3_applySeed_11 : decode cX3_applySeed 11 = .ok (.iconst 0, 1) := by decide +kernel
theorem dX3_applySeed_12 : decode cX3_applySeed 12 = .ok (.ireturn, 1) := by decide +kernel
theorem dX3_applySeed_13 : decode cX3_applySeed 13 = .ok (.aload_n 0, 1) := by decide +kernel
theorem dX3_applySeed_14 : decode cX3_applySeed 14 = .ok (.getfield 19, 3) := by decide +kernel
theorem dX3_applySeed_17 : decode cX3_applySeed 17 = .ok (.iload_n 1, 1) := by decide +kernel
theorem dX3_applySeed_18 : decode cX3_applySeed 18 = .ok (.putfield 128, 3) := by decide +kernel
theorem dX3_applySeed_21 : decode cX3_applySeed 21 = .ok (.iconst 1, 1) := by decide +kernel
theorem dX3_applySeed_22 : decode cX3_applySeed 22 = .ok (.ireturn, 1) := by decide +kernel
theorem dX4_init_0 : decode cX4_init 0 = .ok (.aload_n 0, 1) := by decide +kernel
theorem dX4_init_1 : decode cX4_init 1 = .ok (.invokespecial 3, 3) := by decide +kernel
theorem dX4_init_4 : decode cX4_init 4 = .ok (.return_, 1) := by decide +kernel
theorem dX4_put_0 : decode cX4_put 0 = .ok (.aload_n 0, 1) := by decide +kernel
theorem dX4_put_1 : decode cX4_put 1 = .ok (.iload_n 1, 1) := by decide +kernel
theorem dX4_put_2 : decode cX4_put 2 = .ok (.putfield 9, 3) := by decide +kernel
theorem dX4_put_5 : decode cX4_put 5 = .ok (.aload_n 0, 1) := by decide +kernel
theorem dX4_put_6 : decode cX4_put 6 = .ok (.iload_n 2, 1) := by decide +kernel
theorem dX4_put_7 : decode cX4_put 7 = .ok (.putfield 15, 3) := by decide +kernel
theorem dX4_put_10 : decode cX4_put 10 = .ok (.aload_n 0, 1) := by decide +kernel
theorem dX4_put_11 : decode cX4_put 11 = .ok (.iload_n 3, 1) := by decide +kernel
theorem dX4_put_12 : decode cX4_put 12 = .ok (.putfield 18, 3) := by decide +kernel
theorem dX4_put_15 : decode cX4_put 15 = .ok (.aload_n 0, 1) := by decide +kernel
theorem dX4_put_16 : decode cX4_put 16 = .ok (.iload 4, 2) := by decide +kernel
theorem dX4_put_18 : decode cX4_put 18 = .ok (.putfield 21, 3) := by decide +kernel
theorem dX4_put_21 : decode cX4_put 21 = .ok (.return_, 1) := by decide +kernel
theorem dX4_clear_0 : decode cX4_clear 0 = .ok (.aload_n 0, 1) := by decide +kernel
theorem dX4_clear_1 : decode cX4_clear 1 = .ok (.iconst 0, 1) := by decide +kernel
theorem dX4_clear_2 : decode cX4_clear 2 = .ok (.iconst 0, 1) := by decide +kernel
theorem dX4_clear_3 : decode cX4_clear 3 = .ok (.iconst 0, 1) := by decide +kernel
theorem dX4_clear_4 : decode cX4_clear 4 = .ok (.iconst 0, 1) := by decide +kernel
theorem dX4_clear_5 : decode cX4_clear 5 = .ok (.invokevirtual 24, 3) := by decide +kernel
theorem dX4_clear_8 : decode cX4_clear 8 = .ok (.return_, 1) := by decide +kernel
theorem dX4_copyFrom_0 : decode cX4_copyFrom 0 = .ok (.aload_n 0, 1) := by decide +kernel
theorem dX4_copyFrom_1 : decode cX4_copyFrom 1 = .ok (.aload_n 1, 1) := by decide +kernel
theorem dX4_copyFrom_2 : decode cX4_copyFrom 2 = .ok (.getfield 9, 3) := by decide +kernel
theorem dX4_copyFrom_5 : decode cX4_copyFrom 5 = .ok (.aload_n 1, 1) := by decide +kernel
theorem dX4_copyFrom_6 : decode cX4_copyFrom 6 = .ok (.getfield 15, 3) := by decide +kernel
theorem dX4_copyFrom_9 : decode cX4_copyFrom 9 = .ok (.aload_n 1, 1) := by decide +kernel
theorem dX4_copyFrom_10 : decode cX4_copyFrom 10 = .ok (.getfield 18, 3) := by decide +kernel
theorem dX4_copyFrom_13 : decode cX4_copyFrom 13 = .ok (.aload_n 1, 1) := by decide +kernel
theorem dX4_copyFrom_14 : decode cX4_copyFrom 14 = .ok (.getfield 21, 3) := by decide +kernel
theorem dX4_copyFrom_17 : decode cX4_copyFrom 17 = .ok (.invokevirtual 24, 3) := by decide +kernel
theorem dX4_copyFrom_20 : decode cX4_copyFrom 20 = .ok (.return_, 1) := by decide +kernel
theorem dX5_init_0 : decode cX5_init 0 = .ok (.aload_n 0, 1) := by decide +kernel
theorem dX5_init_1 : decode cX5_init 1 = .ok (.invokespecial 3, 3) := by decide +kernel
theorem dX5_init_4 : decode cX5_init 4 = .ok (.aload_n 0, 1) := by decide +kernel
theorem dX5_init_5 : decode cX5_init 5 = .ok (.new 9, 3) := by decide +kernel
theorem dX5_init_8 : decode cX5_init 8 = .ok (.dup, 1) := by decide +kernel
theorem dX5_init_9 : decode cX5_init 9 = .ok (.invokespecial 11, 3) := by decide +kernel
theorem dX5_init_12 : decode cX5_init 12 = .ok (.putfield 12, 3) := by decide +kernel
theorem dX5_init_15 : decode cX5_init 15 = .ok (.aload_n 0, 1) := by decide +kernel
theorem dX5_init_16 : decode cX5_init 16 = .ok (.new 18, 3) := by decide +kernel
theorem dX5_init_19 : decode cX5_init 19 = .ok (.dup, 1) := by decide +kernel
theorem dX5_init_20 : decode cX5_init 20 = .ok (.invokespecial 20, 3) := by decide +kernel
theorem dX5_init_23 : decode cX5_init 23 = .ok (.putfield 21, 3) := by decide +kernel
theorem dX5_init_26 : decode cX5_init 26 = .ok (.aload_n 0, 1) := by decide +kernel
theorem dX5_init_27 : decode cX5_init 27 = .ok (.new 25, 3) := by decide +kernel
theorem dX5_init_30 : decode cX5_init 30 = .ok (.dup, 1) := by decide +kernel
theorem dX5_init_31 : decode cX5_init 31 = .ok (.invokespecial 27, 3) := by decide +kernel
theorem dX5_init_34 : decode cX5_init 34 = .ok (.putfield 28, 3) := by decide +kernel
theorem dX5_init_37 : decode cX5_init 37 = .ok (.aload_n 0, 1) := by decide +kernel
theorem dX5_init_38 : decode cX5_init 38 = .ok (.new 25, 3) := by decide +kernel
theorem dX5_init_41 : decode cX5_init 41 = .ok (.dup, 1) := by decide +kernel
theorem dX5_init_42 : decode cX5_init 42 = .ok (.invokespecial 27, 3) := by decide +kernel
theorem dX5_init_45 : decode cX5_init 45 = .ok (.putfield 32, 3) := by decide +kernel
theorem dX5_init_48 : decode cX5_init 48 = .ok (.return_, 1) := by decide +kernel
theorem dX5_clear_0 : decode cX5_clear 0 = .ok (.aload_n 0, 1) := by decide +kernel
theorem dX5_clear_1 : decode cX5_clear 1 = .ok (.iconst 0, 1) := by decide +kernel
theorem dX5_clear_2 : decode cX5_clear 2 = .ok (.putfield 35, 3) := by decide +kernel
theorem dX5_clear_5 : decode cX5_clear 5 = .ok (.aload_n 0, 1) := by decide +kernel
theorem dX5_clear_6 : decode cX5_clear 6 = .ok (.iconst 0, 1) := by decide +kernel
theorem dX5_clear_7 : decode cX5_clear 7 = .ok (.putfield 39, 3) := by decide +kernel
theorem dX5_clear_10 : decode cX5_clear 10 = .ok (.aload_n 0, 1) := by decide +kernel
theorem dX5_clear_11 : decode cX5_clear 11 = .ok (.iconst 0, 1) := by decide +kernel
theorem dX5_clear_12 : decode cX5_clear 12 = .ok (.putfield 42, 3) := by decide +kernel
theorem dX5_clear_15 : decode cX5_clear 15 = .ok (.aload_n 0, 1) := by decide +kernel
theorem dX5_clear_16 : decode cX5_clear 16 = .ok (.iconst 0, 1) := by decide +kernel
theorem dX5_clear_17 : decode cX5_clear 17 = .ok (.putfield 45, 3) := by decide +kernel
theorem dX5_clear_20 : decode cX5_clear 20 = .ok (.aload_n 0, 1) := by decide +kernel
theorem dX5_clear_21 : decode cX5_clear 21 = .ok (.iconst 0, 1) := by decide +kernel
theorem dX5_clear_22 : decode cX5_clear 22 = .ok (.putfield 48, 3) := by decide +kernel
theorem dX5_clear_25 : decode cX5_clear 25 = .ok (.aload_n 0, 1) := by decide +kernel
theorem dX5_clear_26 : decode cX5_clear 26 = .ok (.iconst 0, 1) := by decide +kernel
theorem dX5_clear_27 : decode cX5_clear 27 = .ok (.putfield 51, 3) := by decide +kernel
theorem dX5_clear_30 : decode cX5_clear 30 = .ok (.aload_n 0, 1) := by decide +kernel
theorem dX5_clear_31 : decode cX5_clear 31 = .ok (.iconst 0, 1) := by decide +kernel
theorem dX5_clear_32 : decode cX5_clear 32 = .ok (.putfield 54, 3) := by decide +kernel
theorem dX5_clear_35 : decode cX5_clear 35 = .ok (.aload_n 0, 1) := by decide +kernel
theorem dX5_clear_36 : decode cX5_clear 36 = .ok (.iconst 0, 1) := by decide +kernel
theorem dX5_clear_37 : decode cX5_clear 37 = .ok (.putfield 57, 3) := by decide +kernel
theorem dX5_clear_40 : decode cX5_clear 40 = .ok (.aload_n 0, 1) := by decide +kernel
theorem dX5_clear_41 : decode cX5_clear 41 = .ok (.iconst 0, 1) := by decide +kernel
theorem dX5_clear_42 : decode cX5_clear 42 = .ok (.putfield 60, 3) := by decide +kernel
theorem dX5_clear_45 : decode cX5_clear 45 = .ok (.aload_n 0, 1) := by decide +kernel
theorem dX5_clear_46 : decode cX5_clear 46 = .ok (.iconst 0, 1) := by decide +kernel
theorem dX5_clear_47 : decode cX5_clear 47 = .ok (.putfield 63, 3) := by decide +kernel
theorem dX5_clear_50 : decode cX5_clear 50 = .ok (.aload_n 0, 1) := by decide +kernel
theorem dX5_clear_51 : decode cX5_clear 51 = .ok (.iconst 0, 1) := by decide +kernel
theorem dX5_clear_52 : decode cX5_clear 52 = .ok (.putfield 66, 3) := by decide +kernel
theorem dX5_clear_55 : decode cX5_clear 55 = .ok (.aload_n 0, 1) := by decide +kernel
theorem dX5_clear_56 : decode cX5_clear 56 = .ok (.iconst 0, 1) := by decide +kernel
theorem dX5_clear_57 : decode cX5_clear 57 = .ok (.putfield 70, 3) := by decide +kernel
theorem dX5_clear_60 : decode cX5_clear 60 = .ok (.aload_n 0, 1) := by decide +kernel
theorem dX5_clear_61 : decode cX5_clear 61 = .ok (.iconst 0, 1) := by decide +kernel
theorem dX5_clear_62 : decode cX5_clear 62 = .ok (.putfield 73, 3) := by decide +kernel
theorem dX5_clear_65 : decode cX5_clear 65 = .ok (.aload_n 0, 1) := by decide +kernel
theorem dX5_clear_66 : decode cX5_clear 66 = .ok (.iconst 0, 1) := by decide +kernel
theorem dX5_clear_67 : decode cX5_clear 67 = .ok (.putfield 76, 3) := by decide +kernel
theorem dX5_clear_70 : decode cX5_clear 70 = .ok (.aload_n 0, 1) := by decide +kernel
theorem dX5_clear_71 : decode cX5_clear 71 = .ok (.iconst 0, 1) := by decide +kernel
theorem dX5_clear_72 : decode cX5_clear 72 = .ok (.putfield 79, 3) := by decide +kernel
theorem dX5_clear_75 : decode cX5_clear 75 = .ok (.aload_n 0, 1) := by decide +kernel
theorem dX5_clear_76 : decode cX5_clear 76 = .ok (.getfield 12, 3) := by decide +kernel
theorem dX5_clear_79 : decode cX5_clear 79 = .ok (.iconst 0, 1) := by decide +kernel
theorem dX5_clear_80 : decode cX5_clear 80 = .ok (.putfield 82, 3) := by decide +kernel
theorem dX5_clear_83 : decode cX5_clear 83 = .ok (.aload_n 0, 1) := by decide +kernel
theorem dX5_clear_84 : decode cX5_clear 84 = .ok (.getfield 21, 3) := by decide +kernel
theorem dX5_clear_87 : decode cX5_clear 87 = .ok (.iconst 0, 1) := by decide +kernel
theorem dX5_clear_88 : decode cX5_clear 88 = .ok (.putfield 85, 3) := by decide +kernel
theorem dX5_clear_91 : decode cX5_clear 91 = .ok (.aload_n 0, 1) := by decide +kernel
theorem dX5_clear_92 : decode cX5_clear 92 = .ok (.getfield 28, 3) := by decide +kernel
theorem dX5_clear_95 : decode cX5_clear 95 = .ok (.invokevirtual 88, 3) := by decide +kernel
theorem dX5_clear_98 : decode cX5_clear 98 = .ok (.aload_n 0, 1) := by decide +kernel
theorem dX5_clear_99 : decode cX5_clear 99 = .ok (.getfield 32, 3) := by decide +kernel
theorem dX5_clear_102 : decode cX5_clear 102 = .ok (.invokevirtual 88, 3) := by decide +kernel
theorem dX5_clear_105 : decode cX5_clear 105 = .ok (.return_, 1) := by decide +kernel
theorem dX5_copyFrom_0 : decode cX5_copyFrom 0 = .ok (.aload_n 0, 1) := by decide +kernel
theorem dX5_copyFrom_1 : decode cX5_copyFrom 1 = .ok (.aload_n 1, 1) := by decide +kernel
theorem dX5_copyFrom_2 : decode cX5_copyFrom 2 = .ok (.getfield 35, 3) := by decide +kernel
theorem dX5_copyFrom_5 : decode cX5_copyFrom 5 = .ok (.putfield 35, 3) := by decide +kernel
theorem dX5_copyFrom_8 : decode cX5_copyFrom 8 = .ok (.aload_n 0, 1) := by decide +kernel
theorem dX5_copyFrom_9 : decode cX5_copyFrom 9 = .ok (.aload_n 1, 1) := by decide +kernel
theorem dX5_copyFrom_10 : decode cX5_copyFrom 10 = .ok (.getfield 39, 3) := by decide +kernel
theorem dX5_copyFrom_13 : decode cX5_copyFrom 13 = .ok (.putfield 39, 3) := by decide +kernel
theorem dX5_copyFrom_16 : decode cX5_copyFrom 16 = .ok (.aload_n 0, 1) := by decide +kernel
theorem dX5_copyFrom_17 : decode cX5_copyFrom 17 = .ok (.aload_n 1, 1) := by decide +kernel
theorem dX5_copyFrom_18 : decode cX5_copyFrom 18 = .ok (.getfield 42, 3) := by decide +kernel
theorem dX5_copyFrom_21 : decode cX5_copyFrom 21 = .ok (.putfield 42, 3) := by decide +kernel
theorem dX5_copyFrom_24 : decode cX5_copyFrom 24 = .ok (.aload_n 0, 1) := by decide +kernel
theorem dX5_copyFrom_25 : decode cX5_copyFrom 25 = .ok (.aload_n 1, 1) := by decide +kernel
theorem dX5_copyFrom_26 : decode cX5_copyFrom 26 = .ok (.getfield 45, 3) := by decide +kernel
theorem dX5_copyFrom_29 : decode cX5_copyFrom 29 = .ok (.putfield 45, 3) := by decide +kernel
theorem dX5_copyFrom_32 : decode cX5_copyFrom 32 = .ok (.aload_n 0, 1) := by decide +kernel
theorem dX5_copyFrom_33 : decode cX5_copyFrom 33 = .ok (.aload_n 1, 1) := by decide +kernel
theorem dX5_copyFrom_34 : decode cX5_copyFrom 34 = .ok (.getfield 48, 3) := by decide +kernel
theorem dX5_copyFrom_37 : decode cX5_copyFrom 37 = .ok (.putfield 48, 3) := by decide +kernel
theorem dX5_copyFrom_40 : decode cX5_copyFrom 40 = .ok (.aload_n 0, 1) := by decide +kernel
theorem dX5_copyFrom_41 : decode cX5_copyFrom 41 = .ok (.aload_n 1, 1) := by decide +kernel
theorem dX5_copyFrom_42 : decode cX5_copyFrom 42 = .ok (.getfield 51, 3) := by decide +kernel
theorem dX5_copyFrom_45 : decode cX5_copyFrom 45 = .ok (.putfield 51, 3) := by decide +kernel
theorem dX5_copyFrom_48 : decode cX5_copyFrom 48 = .ok (.aload_n 0, 1) := by decide +kernel
theorem dX5_copyFrom_49 : decode cX5_copyFrom 49 = .ok (.aload_n 1, 1) := by decide +kernel
theorem dX5_copyFrom_50 : decode cX5_copyFrom 50 = .ok (.getfield 54, 3) := by decide +kernel
theorem dX5_copyFrom_53 : decode cX5_copyFrom 53 = .ok (.putfield 54, 3) := by decide +kernel
theorem dX5_copyFrom_56 : decode cX5_copyFrom 56 = .ok (.aload_n 0, 1) := by decide +kernel
theorem dX5_copyFrom_57 : decode cX5_copyFrom 57 = .ok (.aload_n 1, 1) := by decide +kernel
theorem dX5_copyFrom_58 : decode cX5_copyFrom 58 = .ok (.getfield 57, 3) := by decide +kernel
theorem dX5_copyFrom_61 : decode cX5_copyFrom 61 = .ok (.putfield 57, 3) := by decide +kernel
theorem dX5_copyFrom_64 : decode cX5_copyFrom 64 = .ok (.aload_n 0, 1) := by decide +kernel
theorem dX5_copyFrom_65 : decode cX5_copyFrom 65 = .ok (.aload_n 1, 1) := by decide +kernel
theorem dX5_copyFrom_66 : decode cX5_copyFrom 66 = .ok (.getfield 60, 3) := by decide +kernel
theorem dX5_copyFrom_69 : decode cX5_copyFrom 69 = .ok (.putfield 60, 3) := by decide +kernel
theorem dX5_copyFrom_72 : decode cX5_copyFrom 72 = .ok (.aload_n 0, 1) := by decide +kernel
theorem dX5_copyFrom_73 : decode cX5_copyFrom 73 = .ok (.aload_n 1, 1) := by decide +kernel
theorem dX5_copyFrom_74 : decode cX5_copyFrom 74 = .ok (.getfield 63, 3) := by decide +kernel
theorem dX5_copyFrom_77 : decode cX5_copyFrom 77 = .ok (.putfield 63, 3) := by decide +kernel
theorem dX5_copyFrom_80 : decode cX5_copyFrom 80 = .ok (.aload_n 0, 1) := by decide +kernel
theorem dX5_copyFrom_81 : decode cX5_copyFrom 81 = .ok (.aload_n 1, 1) := by decide +kernel
theorem dX5_copyFrom_82 : decode cX5_copyFrom 82 = .ok (.getfield 66, 3) := by decide +kernel
theorem dX5_copyFrom_85 : decode cX5_copyFrom 85 = .ok (.putfield 66, 3) := by decide +kernel
theorem dX5_copyFrom_88 : decode cX5_copyFrom 88 = .ok (.aload_n 0, 1) := by decide +kernel
theorem dX5_copyFrom_89 : decode cX5_copyFrom 89 = .ok (.aload_n 1, 1) := by decide +kernel
theorem dX5_copyFrom_90 : decode cX5_copyFrom 90 = .ok (.getfield 70, 3) := by decide +kernel
theorem dX5_copyFrom_93 : decode cX5_copyFrom 93 = .ok (.putfield 70, 3) := by decide +kernel
theorem dX5_copyFrom_96 : decode cX5_copyFrom 96 = .ok (.aload_n 0, 1) := by decide +kernel
theorem dX5_copyFrom_97 : decode cX5_copyFrom 97 = .ok (.aload_n 1, 1) := by decide +kernel
theorem dX5_copyFrom_98 : decode cX5_copyFrom 98 = .ok (.getfield 73, 3) := by decide +kernel
theorem dX5_copyFrom_101 : decode cX5_copyFrom 101 = .ok (.putfield 73, 3) := by decide +kernel
theorem dX5_copyFrom_104 : decode cX5_copyFrom 104 = .ok (.aload_n 0, 1) := by decide +kernel
theorem dX5_copyFrom_105 : decode cX5_copyFrom 105 = .ok (.aload_n 1, 1) := by decide +kernel
theorem dX5_copyFrom_106 : decode cX5_copyFrom 106 = .ok (.getfield 76, 3) := by decide +kernel
theorem dX5_copyFrom_109 : decode cX5_copyFrom 109 = .ok (.putfield 76, 3) := by decide +kernel
theorem dX5_copyFrom_112 : decode cX5_copyFrom 112 = .ok (.aload_n 0, 1) := by decide +kernel
theorem dX5_copyFrom_113 : decode cX5_copyFrom 113 = .ok (.aload_n 1, 1) := by decide +kernel
theorem dX5_copyFrom_114 : decode cX5_copyFrom 114 = .ok (.getfield 79, 3) := by decide +kernel
theorem dX5_copyFrom_117 : decode cX5_copyFrom 117 = .ok (.putfield 79, 3) := by decide +kernel
theorem dX5_copyFrom_120 : decode cX5_copyFrom 120 = .ok (.aload_n 0, 1) := by decide +kernel
theorem dX5_copyFrom_121 : decode cX5_copyFrom 121 = .ok (.getfield 12, 3) := by decide +kernel
theorem dX5_copyFrom_124 : decode cX5_copyFrom 124 = .ok (.aload_n 1, 1) := by decide +kernel
theorem dX5_copyFrom_125 : decode cX5_copyFrom 125 = .ok (.getfield 12, 3) := by decide +kernel
theorem dX5_copyFrom_128 : decode cX5_copyFrom 128 = .ok (.invokevirtual 91, 3) := by decide +kernel
theorem dX5_copyFrom_131 : decode cX5_copyFrom 131 = .ok (.aload_n 0, 1) := by decide +kernel
theorem dX5_copyFrom_132 : decode cX5_copyFrom 132 = .ok (.getfield 21, 3) := by decide +kernel
theorem dX5_copyFrom_135 : decode cX5_copyFrom 135 = .ok (.aload_n 1, 1) := by decide +kernel
theorem dX5_copyFrom_136 : decode cX5_copyFrom 136 = .ok (.getfield 21, 3) := by decide +kernel
theorem dX5_copyFrom_139 : decode cX5_copyFrom 139 = .ok (.invokevirtual 95, 3) := by decide +kernel
theorem dX5_copyFrom_142 : decode cX5_copyFrom 142 = .ok (.aload_n 0, 1) := by decide +kernel
theorem dX5_copyFrom_143 : decode cX5_copyFrom 143 = .ok (.getfield 28, 3) := by decide +kernel
theorem dX5_copyFrom_146 : decode cX5_copyFrom 146 = .ok (.aload_n 1, 1) := by decide +kernel
theorem dX5_copyFrom_147 : decode cX5_copyFrom 147 = .ok (.getfield 28, 3) := by decide +kernel
theorem dX5_copyFrom_150 : decode cX5_copyFrom 150 = .ok (.invokevirtual 98, 3) := by decide +kernel
theorem dX5_copyFrom_153 : decode cX5_copyFrom 153 = .ok (.return_, 1) := by decide +kernel
theorem dX5_tallyOf_0 : decode cX5_tallyOf 0 = .ok (.iload_n 1, 1) := by decide +kernel
theorem dX5_tallyOf_1 : decode cX5_tallyOf 1 = .ok (.tableswitch 45 0 2 #[27, 35, 40], 27) := by decide +kernel
theorem dX5_tallyOf_28 : decode cX5_tallyOf 28 = .ok (.aload_n 0, 1) := by decide +kernel
theorem dX5_tallyOf_29 : decode cX5_tallyOf 29 = .ok (.getfield 12, 3) := by decide +kernel
theorem dX5_tallyOf_32 : decode cX5_tallyOf 32 = .ok (.getfield 82, 3) := by decide +kernel
theorem dX5_tallyOf_35 : decode cX5_tallyOf 35 = .ok (.ireturn, 1) := by decide +kernel
theorem dX5_tallyOf_36 : decode cX5_tallyOf 36 = .ok (.aload_n 0, 1) := by decide +kernel
theorem dX5_tallyOf_37 : decode cX5_tallyOf 37 = .ok (.getfield 54, 3) := by decide +kernel
theorem dX5_tallyOf_40 : decode cX5_tallyOf 40 = .ok (.ireturn, 1) := by decide +kernel
theorem dX5_tallyOf_41 : decode cX5_tallyOf 41 = .ok (.aload_n 0, 1) := by decide +kernel
theorem dX5_tallyOf_42 : decode cX5_tallyOf 42 = .ok (.getfield 57, 3) := by decide +kernel
theorem dX5_tallyOf_45 : decode cX5_tallyOf 45 = .ok (.ireturn, 1) := by decide +kernel
theorem dX5_tallyOf_46 : decode cX5_tallyOf 46 = .ok (.aload_n 0, 1) := by decide +kernel
theorem dX5_tallyOf_47 : decode cX5_tallyOf 47 = .ok (.getfield 51, 3) := by decide +kernel
theorem dX5_tallyOf_50 : decode cX5_tallyOf 50 = .ok (.ireturn, 1) := by decide +kernel
theorem dX5_send_0 : decode cX5_send 0 = .ok (.iload_n 1, 1) := by decide +kernel
theorem dX5_send_1 : decode cX5_send 1 = .ok (.ifCond .ne 13, 3) := by decide +kernel
theorem dX5_send_4 : decode cX5_send 4 = .ok (.aload_n 0, 1) := by decide +kernel
theorem dX5_send_5 : decode cX5_send 5 = .ok (.getfield 32, 3) := by decide +kernel
theorem dX5_send_8 : decode cX5_send 8 = .ok (.invokevirtual 88, 3) := by decide +kernel
theorem dX5_send_11 : decode cX5_send 11 = .ok (.goto 57, 3) := by decide +kernel
theorem dX5_send_14 : decode cX5_send 14 = .ok (.iload_n 1, 1) := by decide +kernel
theorem dX5_send_15 : decode cX5_send 15 = .ok (.iconst 2, 1) := by decide +kernel
theorem dX5_send_16 : decode cX5_send 16 = .ok (.if_icmp .eq 8, 3) := by decide +kernel
theorem dX5_send_19 : decode cX5_send 19 = .ok (.iload_n 1, 1) := by decide +kernel
theorem dX5_send_20 : decode cX5_send 20 = .ok (.iconst 4, 1) := by decide +kernel
theorem dX5_send_21 : decode cX5_send 21 = .ok (.if_icmp .ne 17, 3) := by decide +kernel
theorem dX5_send_24 : decode cX5_send 24 = .ok (.aload_n 0, 1) := by decide +kernel
theorem dX5_send_25 : decode cX5_send 25 = .ok (.getfield 32, 3) := by decide +kernel
theorem dX5_send_28 : decode cX5_send 28 = .ok (.aload_n 0, 1) := by decide +kernel
theorem dX5_send_29 : decode cX5_send 29 = .ok (.getfield 28, 3) := by decide +kernel
theorem dX5_send_32 : decode cX5_send 32 = .ok (.invokevirtual 98, 3) := by decide +kernel
theorem dX5_send_35 : decode cX5_send 35 = .ok (.goto 33, 3) := by decide +kernel
theorem dX5_send_38 : decode cX5_send 38 = .ok (.aload_n 0, 1) := by decide +kernel
theorem dX5_send_39 : decode cX5_send 39 = .ok (.getfield 32, 3) := by decide +kernel
theorem dX5_send_42 : decode cX5_send 42 = .ok (.iload_n 1, 1) := by decide +kernel
theorem dX5_send_43 : decode cX5_send 43 = .ok (.aload_n 0, 1) := by decide +kernel
theorem dX5_send_44 : decode cX5_send 44 = .ok (.getfield 12, 3) := by decide +kernel
theorem dX5_send_47 : decode cX5_send 47 = .ok (.getfield 101, 3) := by decide +kernel
theorem dX5_send_50 : decode cX5_send 50 = .ok (.iconst 0, 1) := by decide +kernel
theorem dX5_send_51 : decode cX5_send 51 = .ok (.iaload, 1) := by decide +kernel
theorem dX5_send_52 : decode cX5_send 52 = .ok (.aload_n 0, 1) := by decide +kernel
theorem dX5_send_53 : decode cX5_send 53 = .ok (.getfield 12, 3) := by decide +kernel
theorem dX5_send_56 : decode cX5_send 56 = .ok (.getfield 105, 3) := by decide +kernel
theorem dX5_send_59 : decode cX5_send 59 = .ok (.iconst 0, 1) := by decide +kernel
theorem dX5_send_60 : decode cX5_send 60 = .ok (.iaload, 1) := by decide +kernel
theorem dX5_send_61 : decode cX5_send 61 = .ok (.aload_n 0, 1) := by decide +kernel
theorem dX5_send_62 : decode cX5_send 62 = .ok (.getfield 70, 3) := by decide +kernel
theorem dX5_send_65 : decode cX5_send 65 = .ok (.invokevirtual 108, 3) := by decide +kernel
theorem dX5_send_68 : decode cX5_send 68 = .ok (.aload_n 0, 1) := by decide +kernel
theorem dX5_send_69 : decode cX5_send 69 = .ok (.getfield 28, 3) := by decide +kernel
theorem dX5_send_72 : decode cX5_send 72 = .ok (.invokevirtual 88, 3) := by decide +kernel
theorem dX5_send_75 : decode cX5_send 75 = .ok (.iload_n 1, 1) := by decide +kernel
theorem dX5_send_76 : decode cX5_send 76 = .ok (.iconst 3, 1) := by decide +kernel
theorem dX5_send_77 : decode cX5_send 77 = .ok (.if_icmp .ne 38, 3) := by decide +kernel
theorem dX5_send_80 : decode cX5_send 80 = .ok (.aload_n 0, 1) := by decide +kernel
theorem dX5_send_81 : decode cX5_send 81 = .ok (.dup, 1) := by decide +kernel
theorem dX5_send_82 : decode cX5_send 82 = .ok (.getfield 70, 3) := by decide +kernel
theorem dX5_send_85 : decode cX5_send 85 = .ok (.iconst 1, 1) := by decide +kernel
theorem dX5_send_86 : decode cX5_send 86 = .ok (.iadd, 1) := by decide +kernel
theorem dX5_send_87 : decode cX5_send 87 = .ok (.putfield 70, 3) := by decide +kernel
theorem dX5_send_90 : decode cX5_send 90 = .ok (.aload_n 0, 1) := by decide +kernel
theorem dX5_send_91 : decode cX5_send 91 = .ok (.aload_n 0, 1) := by decide +kernel
theorem dX5_send_92 : decode cX5_send 92 = .ok (.getfield 70, 3) := by decide +kernel
theorem dX5_send_95 : decode cX5_send 95 = .ok (.aload_n 0, 1) := by decide +kernel
theorem dX5_send_96 : decode cX5_send 96 = .ok (.getfield 12, 3) := by decide +kernel
theorem dX5_send_99 : decode cX5_send 99 = .ok (.getfield 105, 3) := by decide +kernel
theorem dX5_send_102 : decode cX5_send 102 = .ok (.iconst 0, 1) := by decide +kernel
theorem dX5_send_103 : decode cX5_send 103 = .ok (.iaload, 1) := by decide +kernel
theorem dX5_send_104 : decode cX5_send 104 = .ok (.if_icmp .ge 7, 3) := by decide +kernel
theorem dX5_send_107 : decode cX5_send 107 = .ok (.iconst 1, 1) := by decide +kernel
theorem dX5_send_108 : decode cX5_send 108 = .ok (.goto 4, 3) := by decide +kernel
theorem dX5_send_111 : decode cX5_send 111 = .ok (.iconst 0, 1) := by decide +kernel
theorem dX5_send_112 : decode cX5_send 112 = .ok (.putfield 66, 3) := by decide +kernel
theorem dX5_send_115 : decode cX5_send 115 = .ok (.return_, 1) := by decide +kernel
theorem dX5_awaitAnswer_0 : decode cX5_awaitAnswer 0 = .ok (.aload_n 0, 1) := by decide +kernel
theorem dX5_awaitAnswer_1 : decode cX5_awaitAnswer 1 = .ok (.getfield 32, 3) := by decide +kernel
theorem dX5_awaitAnswer_4 : decode cX5_awaitAnswer 4 = .ok (.getfield 112, 3) := by decide +kernel
theorem dX5_awaitAnswer_7 : decode cX5_awaitAnswer 7 = .ok (.iconst 1, 1) := by decide +kernel
theorem dX5_awaitAnswer_8 : decode cX5_awaitAnswer 8 = .ok (.if_icmp .ne 11, 3) := by decide +kernel
theorem dX5_awaitAnswer_11 : decode cX5_awaitAnswer 11 = .ok (.aload_n 0, 1) := by decide +kernel
theorem dX5_awaitAnswer_12 : decode cX5_awaitAnswer 12 = .ok (.iconst 2, 1) := by decide +kernel
theorem dX5_awaitAnswer_13 : decode cX5_awaitAnswer 13 = .ok (.putfield 63, 3) := by decide +kernel
theorem dX5_awaitAnswer_16 : decode cX5_awaitAnswer 16 = .ok (.goto 26, 3) := by decide +kernel
theorem dX5_awaitAnswer_19 : decode cX5_awaitAnswer 19 = .ok (.aload_n 0, 1) := by decide +kernel
theorem dX5_awaitAnswer_20 : decode cX5_awaitAnswer 20 = .ok (.getfield 32, 3) := by decide +kernel
theorem dX5_awaitAnswer_23 : decode cX5_awaitAnswer 23 = .ok (.getfield 112, 3) := by decide +kernel
theorem dX5_awaitAnswer_26 : decode cX5_awaitAnswer 26 = .ok (.iconst 3, 1) := by decide +kernel
theorem dX5_awaitAnswer_27 : decode cX5_awaitAnswer 27 = .ok (.if_icmp .ne 15, 3) := by decide +kernel
theorem dX5_awaitAnswer_30 : decode cX5_awaitAnswer 30 = .ok (.aload_n 0, 1) := by decide +kernel
theorem dX5_awaitAnswer_31 : decode cX5_awaitAnswer 31 = .ok (.getfield 66, 3) := by decide +kernel
theorem dX5_awaitAnswer_34 : decode cX5_awaitAnswer 34 = .ok (.ifCond .ne 8, 3) := by decide +kernel
theorem dX5_awaitAnswer_37 : decode cX5_awaitAnswer 37 = .ok (.aload_n 0, 1) := by decide +kernel
theorem dX5_awaitAnswer_38 : decode cX5_awaitAnswer 38 = .ok (.iconst 4, 1) := by decide +kernel
theorem dX5_awaitAnswer_39 : decode cX5_awaitAnswer 39 = .ok (.putfield 63, 3) := by decide +kernel
theorem dX5_awaitAnswer_42 : decode cX5_awaitAnswer 42 = .ok (.return_, 1) := by decide +kernel
theorem dX5_overhear_0 : decode cX5_overhear 0 = .ok (.aload_n 0, 1) := by decide +kernel
theorem dX5_overhear_1 : decode cX5_overhear 1 = .ok (.getfield 21, 3) := by decide +kernel
theorem dX5_overhear_4 : decode cX5_overhear 4 = .ok (.iload_n 1, 1) := by decide +kernel
theorem dX5_overhear_5 : decode cX5_overhear 5 = .ok (.iload_n 2, 1) := by decide +kernel
theorem dX5_overhear_6 : decode cX5_overhear 6 = .ok (.aload_n 3, 1) := by decide +kernel
theorem dX5_overhear_7 : decode cX5_overhear 7 = .ok (.getfield 115, 3) := by decide +kernel
theorem dX5_overhear_10 : decode cX5_overhear 10 = .ok (.aload_n 3, 1) := by decide +kernel
theorem dX5_overhear_11 : decode cX5_overhear 11 = .ok (.getfield 112, 3) := by decide +kernel
theorem dX5_overhear_14 : decode cX5_overhear 14 = .ok (.invokevirtual 117, 3) := by decide +kernel
theorem dX5_overhear_17 : decode cX5_overhear 17 = .ok (.iconst 0, 1) := by decide +kernel
theorem dX5_overhear_18 : decode cX5_overhear 18 = .ok (.istore 4, 2) := by decide +kernel
theorem dX5_overhear_20 : decode cX5_overhear 20 = .ok (.aload_n 3, 1) := by decide +kernel
theorem dX5_overhear_21 : decode cX5_overhear 21 = .ok (.getfield 112, 3) := by decide +kernel
theorem dX5_overhear_24 : decode cX5_overhear 24 = .ok (.iconst 1, 1) := by decide +kernel
theorem dX5_overhear_25 : decode cX5_overhear 25 = .ok (.if_icmp .ne 14, 3) := by decide +kernel
theorem dX5_overhear_28 : decode cX5_overhear 28 = .ok (.aload_n 3, 1) := by decide +kernel
theorem dX5_overhear_29 : decode cX5_overhear 29 = .ok (.getfield 120, 3) := by decide +kernel
theorem dX5_overhear_32 : decode cX5_overhear 32 = .ok (.iconst 2, 1) := by decide +kernel
theorem dX5_overhear_33 : decode cX5_overhear 33 = .ok (.iadd, 1) := by decide +kernel
theorem dX5_overhear_34 : decode cX5_overhear 34 = .ok (.istore 4, 2) := by decide +kernel
theorem dX5_overhear_36 : decode cX5_overhear 36 = .ok (.goto 41, 3) := by decide +kernel
theorem dX5_overhear_39 : decode cX5_overhear 39 = .ok (.aload_n 3, 1) := by decide +kernel
theorem dX5_overhear_40 : decode cX5_overhear 40 = .ok (.getfield 112, 3) := by decide +kernel
theorem dX5_overhear_43 : decode cX5_overhear 43 = .ok (.iconst 2, 1) := by decide +kernel
theorem dX5_overhear_44 : decode cX5_overhear 44 = .ok (.if_icmp .ne 14, 3) := by decide +kernel
theorem dX5_overhear_47 : decode cX5_overhear 47 = .ok (.aload_n 3, 1) := by decide +kernel
theorem dX5_overhear_48 : decode cX5_overhear 48 = .ok (.getfield 120, 3) := by decide +kernel
theorem dX5_overhear_51 : decode cX5_overhear 51 = .ok (.iconst 1, 1) := by decide +kernel
theorem dX5_overhear_52 : decode cX5_overhear 52 = .ok (.iadd, 1) := by decide +kernel
theorem dX5_overhear_53 : decode cX5_overhear 53 = .ok (.istore 4, 2) := by decide +kernel
theorem dX5_overhear_55 : decode cX5_overhear 55 = .ok (.goto 22, 3) := by decide +kernel
theorem dX5_overhear_58 : decode cX5_overhear 58 = .ok (.aload_n 3, 1) := by decide +kernel
theorem dX5_overhear_59 : decode cX5_overhear 59 = .ok (.getfield 112, 3) := by decide +kernel
theorem dX5_overhear_62 : decode cX5_overhear 62 = .ok (.iconst 3, 1) := by decide +kernel
theorem dX5_overhear_63 : decode cX5_overhear 63 = .ok (.if_icmp .ne 14, 3) := by decide +kernel
theorem dX5_overhear_66 : decode cX5_overhear 66 = .ok (.aload_n 3, 1) := by decide +kernel
theorem dX5_overhear_67 : decode cX5_overhear 67 = .ok (.getfield 120, 3) := by decide +kernel
theorem dX5_overhear_70 : decode cX5_overhear 70 = .ok (.aload_n 3, 1) := by decide +kernel
theorem dX5_overhear_71 : decode cX5_overhear 71 = .ok (.getfield 122, 3) := by decide +kernel
theorem dX5_overhear_74 : decode cX5_overhear 74 = .ok (.isub, 1) := by decide +kernel
theorem dX5_overhear_75 : decode cX5_overhear 75 = .ok (.istore 4, 2) := by decide +kernel
theorem dX5_overhear_77 : decode cX5_overhear 77 = .ok (.aload_n 0, 1) := by decide +kernel
theorem dX5_overhear_78 : decode cX5_overhear 78 = .ok (.aload_n 0, 1) := by decide +kernel
theorem dX5_overhear_79 : decode cX5_overhear 79 = .ok (.getfield 48, 3) := by decide +kernel
theorem dX5_overhear_82 : decode cX5_overhear 82 = .ok (.iload_n 1, 1) := by decide +kernel
theorem dX5_overhear_83 : decode cX5_overhear 83 = .ok (.iload 4, 2) := by decide +kernel
theorem dX5_overhear_85 : decode cX5_overhear 85 = .ok (.iadd, 1) := by decide +kernel
theorem dX5_overhear_86 : decode cX5_overhear 86 = .ok (.invokestatic 125, 3) := by decide +kernel
theorem dX5_overhear_89 : decode cX5_overhear 89 = .ok (.putfield 48, 3) := by decide +kernel
theorem dX5_overhear_92 : decode cX5_overhear 92 = .ok (.return_, 1) := by decide +kernel
theorem dX5_take_0 : decode cX5_take 0 = .ok (.aload_n 3, 1) := by decide +kernel
theorem dX5_take_1 : decode cX5_take 1 = .ok (.getfield 112, 3) := by decide +kernel
theorem dX5_take_4 : decode cX5_take 4 = .ok (.iconst 1, 1) := by decide +kernel
theorem dX5_take_5 : decode cX5_take 5 = .ok (.if_icmp .ne 28, 3) := by decide +kernel
theorem dX5_take_8 : decode cX5_take 8 = .ok (.iload_n 1, 1) := by decide +kernel
theorem dX5_take_9 : decode cX5_take 9 = .ok (.aload_n 0, 1) := by decide +kernel
theorem dX5_take_10 : decode cX5_take 10 = .ok (.getfield 48, 3) := by decide +kernel
theorem dX5_take_13 : decode cX5_take 13 = .ok (.if_icmp .le 20, 3) := by decide +kernel
theorem dX5_take_16 : decode cX5_take 16 = .ok (.aload_n 0, 1) := by decide +kernel
theorem dX5_take_17 : decode cX5_take 17 = .ok (.getfield 28, 3) := by decide +kernel
theorem dX5_take_20 : decode cX5_take 20 = .ok (.iconst 2, 1) := by decide +kernel
theorem dX5_take_21 : decode cX5_take 21 = .ok (.iload_n 2, 1) := by decide +kernel
theorem dX5_take_22 : decode cX5_take 22 = .ok (.aload_n 3, 1) := by decide +kernel
theorem dX5_take_23 : decode cX5_take 23 = .ok (.getfield 120, 3) := by decide +kernel
theorem dX5_take_26 : decode cX5_take 26 = .ok (.iconst 0, 1) := by decide +kernel
theorem dX5_take_27 : decode cX5_take 27 = .ok (.invokevirtual 108, 3) := by decide +kernel
theorem dX5_take_30 : decode cX5_take 30 = .ok (.goto 73, 3) := by decide +kernel
theorem dX5_take_33 : decode cX5_take 33 = .ok (.aload_n 3, 1) := by decide +kernel
theorem dX5_take_34 : decode cX5_take 34 = .ok (.getfield 112, 3) := by decide +kernel
theorem dX5_take_37 : decode cX5_take 37 = .ok (.iconst 3, 1) := by decide +kernel
theorem dX5_take_38 : decode cX5_take 38 = .ok (.if_icmp .ne 13, 3) := by decide +kernel
theorem dX5_take_41 : decode cX5_take 41 = .ok (.aload_n 0, 1) := by decide +kernel
theorem dX5_take_42 : decode cX5_take 42 = .ok (.iload_n 1, 1) := by decide +kernel
theorem dX5_take_43 : decode cX5_take 43 = .ok (.iload_n 2, 1) := by decide +kernel
theorem dX5_take_44 : decode cX5_take 44 = .ok (.aload_n 3, 1) := by decide +kernel
theorem dX5_take_45 : decode cX5_take 45 = .ok (.invokevirtual 131, 3) := by decide +kernel
theorem dX5_take_48 : decode cX5_take 48 = .ok (.goto 55, 3) := by decide +kernel
theorem dX5_take_51 : decode cX5_take 51 = .ok (.aload_n 3, 1) := by decide +kernel
theorem dX5_take_52 : decode cX5_take 52 = .ok (.getfield 112, 3) := by decide +kernel
theorem dX5_take_55 : decode cX5_take 55 = .ok (.iconst 2, 1) := by decide +kernel
theorem dX5_take_56 : decode cX5_take 56 = .ok (.if_icmp .ne 24, 3) := by decide +kernel
theorem dX5_take_59 : decode cX5_take 59 = .ok (.aload_n 0, 1) := by decide +kernel
theorem dX5_take_60 : decode cX5_take 60 = .ok (.getfield 63, 3) := by decide +kernel
theorem dX5_take_63 : decode cX5_take 63 = .ok (.iconst 2, 1) := by decide +kernel
theorem dX5_take_64 : decode cX5_take 64 = .ok (.if_icmp .ne 16, 3) := by decide +kernel
theorem dX5_take_67 : decode cX5_take 67 = .ok (.aload_n 0, 1) := by decide +kernel
theorem dX5_take_68 : decode cX5_take 68 = .ok (.iconst 0, 1) := by decide +kernel
theorem dX5_take_69 : decode cX5_take 69 = .ok (.putfield 63, 3) := by decide +kernel
theorem dX5_take_72 : decode cX5_take 72 = .ok (.aload_n 0, 1) := by decide +kernel
theorem dX5_take_73 : decode cX5_take 73 = .ok (.iconst 1, 1) := by decide +kernel
theorem dX5_take_74 : decode cX5_take 74 = .ok (.putfield 66, 3) := by decide +kernel
theorem dX5_take_77 : decode cX5_take 77 = .ok (.goto 26, 3) := by decide +kernel
theorem dX5_take_80 : decode cX5_take 80 = .ok (.aload_n 3, 1) := by decide +kernel
theorem dX5_take_81 : decode cX5_take 81 = .ok (.getfield 112, 3) := by decide +kernel
theorem dX5_take_84 : decode cX5_take 84 = .ok (.iconst 4, 1) := by decide +kernel
theorem dX5_take_85 : decode cX5_take 85 = .ok (.if_icmp .ne 18, 3) := by decide +kernel
theorem dX5_take_88 : decode cX5_take 88 = .ok (.aload_n 0, 1) := by decide +kernel
theorem dX5_take_89 : decode cX5_take 89 = .ok (.getfield 63, 3) := by decide +kernel
theorem dX5_take_92 : decode cX5_take 92 = .ok (.iconst 4, 1) := by decide +kernel
theorem dX5_take_93 : decode cX5_take 93 = .ok (.if_icmp .ne 10, 3) := by decide +kernel
theorem dX5_take_96 : decode cX5_take 96 = .ok (.aload_n 0, 1) := by decide +kernel
theorem dX5_take_97 : decode cX5_take 97 = .ok (.iconst 0, 1) := by decide +kernel
theorem dX5_take_98 : decode cX5_take 98 = .ok (.putfield 63, 3) := by decide +kernel
theorem dX5_take_101 : decode cX5_take 101 = .ok (.iconst 1, 1) := by decide +kernel
theorem dX5_take_102 : decode cX5_take 102 = .ok (.ireturn, 1) := by decide +kernel
theorem dX5_take_103 : decode cX5_take 103 = .ok (.iconst 0, 1) := by decide +kernel
theorem dX5_take_104 : decode cX5_take 104 = .ok (.ireturn, 1) := by decide +kernel
theorem dX5_takePart_0 : decode cX5_takePart 0 = .ok (.aload_n 0, 1) := by decide +kernel
theorem dX5_takePart_1 : decode cX5_takePart 1 = .ok (.getfield 73, 3) := by decide +kernel
theorem dX5_takePart_4 : decode cX5_takePart 4 = .ok (.iload_n 2, 1) := by decide +kernel
theorem dX5_takePart_5 : decode cX5_takePart 5 = .ok (.if_icmp .ne 28, 3) := by decide +kernel
theorem dX5_takePart_8 : decode cX5_takePart 8 = .ok (.aload_n 0, 1) := by decide +kernel
theorem dX5_takePart_9 : decode cX5_takePart 9 = .ok (.getfield 76, 3) := by decide +kernel
theorem dX5_takePart_12 : decode cX5_takePart 12 = .ok (.aload_n 3, 1) := by decide +kernel
theorem dX5_takePart_13 : decode cX5_takePart 13 = .ok (.getfield 122, 3) := by decide +kernel
theorem dX5_takePart_16 : decode cX5_takePart 16 = .ok (.if_icmp .ne 17, 3) := by decide +kernel
theorem dX5_takePart_19 : decode cX5_takePart 19 = .ok (.aload_n 0, 1) := by decide +kernel
theorem dX5_takePart_20 : decode cX5_takePart 20 = .ok (.getfield 79, 3) := by decide +kernel
theorem dX5_takePart_23 : decode cX5_takePart 23 = .ok (.iload_n 1, 1) := by decide +kernel
theorem dX5_takePart_24 : decode cX5_takePart 24 = .ok (.iconst 1, 1) := by decide +kernel
theorem dX5_takePart_25 : decode cX5_takePart 25 = .ok (.isub, 1) := by decide +kernel
theorem dX5_takePart_26 : decode cX5_takePart 26 = .ok (.if_icmp .ne 7, 3) := by decide +kernel
theorem dX5_takePart_29 : decode cX5_takePart 29 = .ok (.iconst 1, 1) := by decide +kernel
theorem dX5_takePart_30 : decode cX5_takePart 30 = .ok (.goto 4, 3) := by decide +kernel
theorem dX5_takePart_33 : decode cX5_takePart 33 = .ok (.iconst 0, 1) := by decide +kernel
theorem dX5_takePart_34 : decode cX5_takePart 34 = .ok (.istore 4, 2) := by decide +kernel
theorem dX5_takePart_36 : decode cX5_takePart 36 = .ok (.aload_n 3, 1) := by decide +kernel
theorem dX5_takePart_37 : decode cX5_takePart 37 = .ok (.getfield 122, 3) := by decide +kernel
theorem dX5_takePart_40 : decode cX5_takePart 40 = .ok (.ifCond .eq 9, 3) := by decide +kernel
theorem dX5_takePart_43 : decode cX5_takePart 43 = .ok (.iload 4, 2) := by decide +kernel
theorem dX5_takePart_45 : decode cX5_takePart 45 = .ok (.ifCond .ne 4, 3) := by decide +kernel
theorem dX5_takePart_48 : decode cX5_takePart 48 = .ok (.return_, 1) := by decide +kernel
theorem dX5_takePart_49 : decode cX5_takePart 49 = .ok (.aload_n 0, 1) := by decide +kernel
theorem dX5_takePart_50 : decode cX5_takePart 50 = .ok (.iload_n 2, 1) := by decide +kernel
theorem dX5_takePart_51 : decode cX5_takePart 51 = .ok (.putfield 73, 3) := by decide +kernel
theorem dX5_takePart_54 : decode cX5_takePart 54 = .ok (.aload_n 0, 1) := by decide +kernel
theorem dX5_takePart_55 : decode cX5_takePart 55 = .ok (.aload_n 3, 1) := by decide +kernel
theorem dX5_takePart_56 : decode cX5_takePart 56 = .ok (.getfield 122, 3) := by decide +kernel
theorem dX5_takePart_59 : decode cX5_takePart 59 = .ok (.iconst 1, 1) := by decide +kernel
theorem dX5_takePart_60 : decode cX5_takePart 60 = .ok (.iadd, 1) := by decide +kernel
theorem dX5_takePart_61 : decode cX5_takePart 61 = .ok (.putfield 76, 3) := by decide +kernel
theorem dX5_takePart_64 : decode cX5_takePart 64 = .ok (.aload_n 0, 1) := by decide +kernel
theorem dX5_takePart_65 : decode cX5_takePart 65 = .ok (.iload_n 1, 1) := by decide +kernel
theorem dX5_takePart_66 : decode cX5_takePart 66 = .ok (.putfield 79, 3) := by decide +kernel
theorem dX5_takePart_69 : decode cX5_takePart 69 = .ok (.aload_n 0, 1) := by decide +kernel
theorem dX5_takePart_70 : decode cX5_takePart 70 = .ok (.getfield 76, 3) := by decide +kernel
theorem dX5_takePart_73 : decode cX5_takePart 73 = .ok (.aload_n 3, 1) := by decide +kernel
theorem dX5_takePart_74 : decode cX5_takePart 74 = .ok (.getfield 120, 3) := by decide +kernel
theorem dX5_takePart_77 : decode cX5_takePart 77 = .ok (.if_icmp .ne 17, 3) := by decide +kernel
theorem dX5_takePart_80 : decode cX5_takePart 80 = .ok (.aload_n 0, 1) := by decide +kernel
theorem dX5_takePart_81 : decode cX5_takePart 81 = .ok (.getfield 28, 3) := by decide +kernel
theorem dX5_takePart_84 : decode cX5_takePart 84 = .ok (.iconst 4, 1) := by decide +kernel
theorem dX5_takePart_85 : decode cX5_takePart 85 = .ok (.iload_n 2, 1) := by decide +kernel
theorem dX5_takePart_86 : decode cX5_takePart 86 = .ok (.aload_n 3, 1) := by decide +kernel
theorem dX5_takePart_87 : decode cX5_takePart 87 = .ok (.getfield 120, 3) := by decide +kernel
theorem dX5_takePart_90 : decode cX5_takePart 90 = .ok (.iconst 0, 1) := by decide +kernel
theorem dX5_takePart_91 : decode cX5_takePart 91 = .ok (.invokevirtual 108, 3) := by decide +kernel
theorem dX5_takePart_94 : decode cX5_takePart 94 = .ok (.return_, 1) := by decide +kernel
theorem dX5_closeLetter_0 : decode cX5_closeLetter 0 = .ok (.aload_n 0, 1) := by decide +kernel
theorem dX5_closeLetter_1 : decode cX5_closeLetter 1 = .ok (.getfield 12, 3) := by decide +kernel
theorem dX5_closeLetter_4 : decode cX5_closeLetter 4 = .ok (.invokevirtual 135, 3) := by decide +kernel
theorem dX5_closeLetter_7 : decode cX5_closeLetter 7 = .ok (.aload_n 0, 1) := by decide +kernel
theorem dX5_closeLetter_8 : decode cX5_closeLetter 8 = .ok (.iconst 0, 1) := by decide +kernel
theorem dX5_closeLetter_9 : decode cX5_closeLetter 9 = .ok (.putfield 70, 3) := by decide +kernel
theorem dX5_closeLetter_12 : decode cX5_closeLetter 12 = .ok (.aload_n 0, 1) := by decide +kernel
theorem dX5_closeLetter_13 : decode cX5_closeLetter 13 = .ok (.iconst 0, 1) := by decide +kernel
theorem dX5_closeLetter_14 : decode cX5_closeLetter 14 = .ok (.putfield 42, 3) := by decide +kernel
theorem dX5_closeLetter_17 : decode cX5_closeLetter 17 = .ok (.aload_n 0, 1) := by decide +kernel
theorem dX5_closeLetter_18 : decode cX5_closeLetter 18 = .ok (.iload_n 1, 1) := by decide +kernel
theorem dX5_closeLetter_19 : decode cX5_closeLetter 19 = .ok (.putfield 39, 3) := by decide +kernel
theorem dX5_closeLetter_22 : decode cX5_closeLetter 22 = .ok (.return_, 1) := by decide +kernel
theorem dX5_failLetter_0 : decode cX5_failLetter 0 = .ok (.aload_n 0, 1) := by decide +kernel
theorem dX5_failLetter_1 : decode cX5_failLetter 1 = .ok (.iconst 0, 1) := by decide +kernel
theorem dX5_failLetter_2 : decode cX5_failLetter 2 = .ok (.putfield 63, 3) := by decide +kernel
theorem dX5_failLetter_5 : decode cX5_failLetter 5 = .ok (.aload_n 0, 1) := by decide +kernel
theorem dX5_failLetter_6 : decode cX5_failLetter 6 = .ok (.dup, 1) := by decide +kernel
theorem dX5_failLetter_7 : decode cX5_failLetter 7 = .ok (.getfield 42, 3) := by decide +kernel
theorem dX5_failLetter_10 : decode cX5_failLetter 10 = .ok (.iconst 1, 1) := by decide +kernel
theorem dX5_failLetter_11 : decode cX5_failLetter 11 = .ok (.iadd, 1) := by decide +kernel
theorem dX5_failLetter_12 : decode cX5_failLetter 12 = .ok (.putfield 42, 3) := by decide +kernel
theorem dX5_failLetter_15 : decode cX5_failLetter 15 = .ok (.aload_n 0, 1) := by decide +kernel
theorem dX5_failLetter_16 : decode cX5_failLetter 16 = .ok (.getfield 42, 3) := by decide +kernel
theorem dX5_failLetter_19 : decode cX5_failLetter 19 = .ok (.iload_n 3, 1) := by decide +kernel
theorem dX5_failLetter_20 : decode cX5_failLetter 20 = .ok (.if_icmp .lt 21, 3) := by decide +kernel
theorem dX5_failLetter_23 : decode cX5_failLetter 23 = .ok (.aload_n 0, 1) := by decide +kernel
theorem dX5_failLetter_24 : decode cX5_failLetter 24 = .ok (.dup, 1) := by decide +kernel
theorem dX5_failLetter_25 : decode cX5_failLetter 25 = .ok (.getfield 57, 3) := by decide +kernel
theorem dX5_failLetter_28 : decode cX5_failLetter 28 = .ok (.iconst 1, 1) := by decide +kernel
theorem dX5_failLetter_29 : decode cX5_failLetter 29 = .ok (.iadd, 1) := by decide +kernel
theorem dX5_failLetter_30 : decode cX5_failLetter 30 = .ok (.putfield 57, 3) := by decide +kernel
theorem dX5_failLetter_33 : decode cX5_failLetter 33 = .ok (.aload_n 0, 1) := by decide +kernel
theorem dX5_failLetter_34 : decode cX5_failLetter 34 = .ok (.iload_n 1, 1) := by decide +kernel
theorem dX5_failLetter_35 : decode cX5_failLetter 35 = .ok (.invokevirtual 138, 3) := by decide +kernel
theorem dX5_failLetter_38 : decode cX5_failLetter 38 = .ok (.goto 22, 3) := by decide +kernel
theorem dX5_failLetter_41 : decode cX5_failLetter 41 = .ok (.aload_n 0, 1) := by decide +kernel
theorem dX5_failLetter_42 : decode cX5_failLetter 42 = .ok (.iconst 0, 1) := by decide +kernel
theorem dX5_failLetter_43 : decode cX5_failLetter 43 = .ok (.putfield 70, 3) := by decide +kernel
theorem dX5_failLetter_46 : decode cX5_failLetter 46 = .ok (.aload_n 0, 1) := by decide +kernel
theorem dX5_failLetter_47 : decode cX5_failLetter 47 = .ok (.iconst 2, 1) := by decide +kernel
theorem dX5_failLetter_48 : decode cX5_failLetter 48 = .ok (.aload_n 0, 1) := by decide +kernel
theorem dX5_failLetter_49 : decode cX5_failLetter 49 = .ok (.getfield 39, 3) := by decide +kernel
theorem dX5_failLetter_52 : decode cX5_failLetter 52 = .ok (.imul, 1) := by decide +kernel
theorem dX5_failLetter_53 : decode cX5_failLetter 53 = .ok (.iload_n 2, 1) := by decide +kernel
theorem dX5_failLetter_54 : decode cX5_failLetter 54 = .ok (.invokestatic 142, 3) := by decide +kernel
theorem dX5_failLetter_57 : decode cX5_failLetter 57 = .ok (.putfield 39, 3) := by decide +kernel
theorem dX5_failLetter_60 : decode cX5_failLetter 60 = .ok (.return_, 1) := by decide +kernel
theorem dX6_init_0 : decode cX6_init 0 = .ok (.aload_n 0, 1) := by decide +kernel
theorem dX6_init_1 : decode cX6_init 1 = .ok (.invokespecial 1, 3) := by decide +kernel
theorem dX6_init_4 : decode cX6_init 4 = .ok (.aload_n 0, 1) := by decide +kernel
theorem dX6_init_5 : decode cX6_init 5 = .ok (.sipush 200, 3) := by decide +kernel
theorem dX6_init_8 : decode cX6_init 8 = .ok (.newarray .char, 2) := by decide +kernel
theorem dX6_init_10 : decode cX6_init 10 = .ok (.putfield 9, 3) := by decide +kernel
theorem dX6_init_13 : decode cX6_init 13 = .ok (.aload_n 0, 1) := by decide +kernel
theorem dX6_init_14 : decode cX6_init 14 = .ok (.new 13, 3) := by decide +kernel
theorem dX6_init_17 : decode cX6_init 17 = .ok (.dup, 1) := by decide +kernel
theorem dX6_init_18 : decode cX6_init 18 = .ok (.invokespecial 15, 3) := by decide +kernel
theorem dX6_init_21 : decode cX6_init 21 = .ok (.putfield 16, 3) := by decide +kernel
theorem dX6_init_24 : decode cX6_init 24 = .ok (.aload_n 0, 1) := by decide +kernel
theorem dX6_init_25 : decode cX6_init 25 = .ok (.new 13, 3) := by decide +kernel
theorem dX6_init_28 : decode cX6_init 28 = .ok (.dup, 1) := by decide +kernel
theorem dX6_init_29 : decode cX6_init 29 = .ok (.invokespecial 15, 3) := by decide +kernel
theorem dX6_init_32 : decode cX6_init 32 = .ok (.putfield 20, 3) := by decide +kernel
theorem dX6_init_35 : decode cX6_init 35 = .ok (.aload_n 0, 1) := by decide +kernel
theorem dX6_init_36 : decode cX6_init 36 = .ok (.new 23, 3) := by decide +kernel
theorem dX6_init_39 : decode cX6_init 39 = .ok (.dup, 1) := by decide +kernel
theorem dX6_init_40 : decode cX6_init 40 = .ok (.aload_n 0, 1) := by decide +kernel
theorem dX6_init_41 : decode cX6_init 41 = .ok (.getfield 9, 3) := by decide +kernel
theorem dX6_init_44 : decode cX6_init 44 = .ok (.aload_n 0, 1) := by decide +kernel
theorem dX6_init_45 : decode cX6_init 45 = .ok (.getfield 20, 3) := by decide +kernel
theorem dX6_init_48 : decode cX6_init 48 = .ok (.invokespecial 25, 3) := by decide +kernel
theorem dX6_init_51 : decode cX6_init 51 = .ok (.putfield 28, 3) := by decide +kernel
theorem dX6_init_54 : decode cX6_init 54 = .ok (.aload_n 0, 1) := by decide +kernel
theorem dX6_init_55 : decode cX6_init 55 = .ok (.iconst 4, 1) := by decide +kernel
theorem dX6_init_56 : decode cX6_init 56 = .ok (.anewarray 13, 3) := by decide +kernel
theorem dX6_init_59 : decode cX6_init 59 = .ok (.putfield 32, 3) := by decide +kernel
theorem dX6_init_62 : decode cX6_init 62 = .ok (.iconst 0, 1) := by decide +kernel
theorem dX6_init_63 : decode cX6_init 63 = .ok (.istore_n 1, 1) := by decide +kernel
theorem dX6_init_64 : decode cX6_init 64 = .ok (.iload_n 1, 1) := by decide +kernel
theorem dX6_init_65 : decode cX6_init 65 = .ok (.iconst 4, 1) := by decide +kernel
theorem dX6_init_66 : decode cX6_init 66 = .ok (.if_icmp .ge 22, 3) := by decide +kernel
theorem dX6_init_69 : decode cX6_init 69 = .ok (.aload_n 0, 1) := by decide +kernel
theorem dX6_init_70 : decode cX6_init 70 = .ok (.getfield 32, 3) := by decide +kernel
theorem dX6_init_73 : decode cX6_init 73 = .ok (.iload_n 1, 1) := by decide +kernel
theorem dX6_init_74 : decode cX6_init 74 = .ok (.new 13, 3) := by decide +kernel
theorem dX6_init_77 : decode cX6_init 77 = .ok (.dup, 1) := by decide +kernel
theorem dX6_init_78 : decode cX6_init 78 = .ok (.invokespecial 15, 3) := by decide +kernel
theorem dX6_init_81 : decode cX6_init 81 = .ok (.aastore, 1) := by decide +kernel
theorem dX6_init_82 : decode cX6_init 82 = .ok (.iinc 1 1, 3) := by decide +kernel
theorem dX6_init_85 : decode cX6_init 85 = .ok (.goto (-21), 3) := by decide +kernel
theorem dX6_init_88 : decode cX6_init 88 = .ok (.iconst 0, 1) := by decide +kernel
theorem dX6_init_89 : decode cX6_init 89 = .ok (.istore_n 1, 1) := by decide +kernel
theorem dX6_init_90 : decode cX6_init 90 = .ok (.iload_n 1, 1) := by decide +kernel
theorem dX6_init_91 : decode cX6_init 91 = .ok (.ldc 36, 2) := by decide +kernel
theorem dX6_init_93 : decode cX6_init 93 = .ok (.invokevirtual 38, 3) := by decide +kernel
theorem dX6_init_96 : decode cX6_init 96 = .ok (.if_icmp .ge 35, 3) := by decide +kernel
theorem dX6_init_99 : decode cX6_init 99 = .ok (.iload_n 1, 1) := by decide +kernel
theorem dX6_init_100 : decode cX6_init 100 = .ok (.sipush 200, 3) := by decide +kernel
theorem dX6_init_103 : decode cX6_init 103 = .ok (.if_icmp .ge 28, 3) := by decide +kernel
theorem dX6_init_106 : decode cX6_init 106 = .ok (.aload_n 0, 1) := by decide +kernel
theorem dX6_init_107 : decode cX6_init 107 = .ok (.getfield 9, 3) := by decide +kernel
theorem dX6_init_110 : decode cX6_init 110 = .ok (.iload_n 1, 1) := by decide +kernel
theorem dX6_init_111 : decode cX6_init 111 = .ok (.ldc 36, 2) := by decide +kernel
theorem dX6_init_113 : decode cX6_init 113 = .ok (.iload_n 1, 1) := by decide +kernel
theorem dX6_init_114 : decode cX6_init 114 = .ok (.invokevirtual 44, 3) := by decide +kernel
theorem dX6_init_117 : decode cX6_init 117 = .ok (.castore, 1) := by decide +kernel
theorem dX6_init_118 : decode cX6_init 118 = .ok (.aload_n 0, 1) := by decide +kernel
theorem dX6_init_119 : decode cX6_init 119 = .ok (.iload_n 1, 1) := by decide +kernel
theorem dX6_init_120 : decode cX6_init 120 = .ok (.iconst 1, 1) := by decide +kernel
theorem dX6_init_121 : decode cX6_init 121 = .ok (.iadd, 1) := by decide +kernel
theorem dX6_init_122 : decode cX6_init 122 = .ok (.putfield 48, 3) := by decide +kernel
theorem dX6_init_125 : decode cX6_init 125 = .ok (.iinc 1 1, 3) := by decide +kernel
theorem dX6_init_128 : decode cX6_init 128 = .ok (.goto (-38), 3) := by decide +kernel
theorem dX6_init_131 : decode cX6_init 131 = .ok (.aload_n 0, 1) := by decide +kernel
theorem dX6_init_132 : decode cX6_init 132 = .ok (.invokevirtual 52, 3) := by decide +kernel
theorem dX6_init_135 : decode cX6_init 135 = .ok (.pop, 1) := by decide +kernel
theorem dX6_init_136 : decode cX6_init 136 = .ok (.aload_n 0, 1) := by decide +kernel
theorem dX6_init_137 : decode cX6_init 137 = .ok (.iconst 0, 1) := by decide +kernel
theorem dX6_init_138 : decode cX6_init 138 = .ok (.putfield 48, 3) := by decide +kernel
theorem dX6_init_141 : decode cX6_init 141 = .ok (.return_, 1) := by decide +kernel
theorem dX6_write_0 : decode cX6_write 0 = .ok (.iload_n 1, 1) := by decide +kernel
theorem dX6_write_1 : decode cX6_write 1 = .ok (.bipush 32, 2) := by decide +kernel
theorem dX6_write_3 : decode cX6_write 3 = .ok (.if_icmp .lt 9, 3) := by decide +kernel
theorem dX6_write_6 : decode cX6_write 6 = .ok (.iload_n 1, 1) := by decide +kernel
theorem dX6_write_7 : decode cX6_write 7 = .ok (.bipush 126, 2) := by decide +kernel
theorem dX6_write_9 : decode cX6_write 9 = .ok (.if_icmp .le 5, 3) := by decide +kernel
theorem dX6_write_12 : decode cX6_write 12 = .ok (.iconst (-1), 1) := by decide +kernel
theorem dX6_write_13 : decode cX6_write 13 = .ok (.ireturn, 1) := by decide +kernel
