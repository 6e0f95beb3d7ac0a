theorem dX0_init_0 : decode cX0_init 0 = .ok (.aload_n 0, 1) := by decide +kernel
theorem dX0_init_1 : decode cX0_init 1 = .ok (.invokespecial 3, 3) := by decide +kernel
theorem dX0_init_4 : decode cX0_init 4 = .ok (.aload_n 0, 1) := by decide +kernel
theorem dX0_init_5 : decode cX0_init 5 = .ok (.bipush 6, 2) := by decide +kernel
theorem dX0_init_7 : decode cX0_init 7 = .ok (.newarray .int, 2) := by decide +kernel
theorem dX0_init_9 : decode cX0_init 9 = .ok (.putfield 9, 3) := by decide +kernel
theorem dX0_init_12 : decode cX0_init 12 = .ok (.aload_n 0, 1) := by decide +kernel
theorem dX0_init_13 : decode cX0_init 13 = .ok (.bipush 6, 2) := by decide +kernel
theorem dX0_init_15 : decode cX0_init 15 = .ok (.newarray .int, 2) := by decide +kernel
theorem dX0_init_17 : decode cX0_init 17 = .ok (.putfield 15, 3) := by decide +kernel
theorem dX0_init_20 : decode cX0_init 20 = .ok (.return_, 1) := by decide +kernel
theorem dX0_add_0 : decode cX0_add 0 = .ok (.aload_n 0, 1) := by decide +kernel
theorem dX0_add_1 : decode cX0_add 1 = .ok (.getfield 18, 3) := by decide +kernel
theorem dX0_add_4 : decode cX0_add 4 = .ok (.bipush 6, 2) := by decide +kernel
theorem dX0_add_6 : decode cX0_add 6 = .ok (.if_icmp .ge 33, 3) := by decide +kernel
theorem dX0_add_9 : decode cX0_add 9 = .ok (.aload_n 0, 1) := by decide +kernel
theorem dX0_add_10 : decode cX0_add 10 = .ok (.getfield 9, 3) := by decide +kernel
theorem dX0_add_13 : decode cX0_add 13 = .ok (.aload_n 0, 1) := by decide +kernel
theorem dX0_add_14 : decode cX0_add 14 = .ok (.getfield 18, 3) := by decide +kernel
theorem dX0_add_17 : decode cX0_add 17 = .ok (.iload_n 1, 1) := by decide +kernel
theorem dX0_add_18 : decode cX0_add 18 = .ok (.iastore, 1) := by decide +kernel
theorem dX0_add_19 : decode cX0_add 19 = .ok (.aload_n 0, 1) := by decide +kernel
theorem dX0_add_20 : decode cX0_add 20 = .ok (.getfield 15, 3) := by decide +kernel
theorem dX0_add_23 : decode cX0_add 23 = .ok (.aload_n 0, 1) := by decide +kernel
theorem dX0_add_24 : decode cX0_add 24 = .ok (.getfield 18, 3) := by decide +kernel
theorem dX0_add_27 : decode cX0_add 27 = .ok (.iload_n 2, 1) := by decide +kernel
theorem dX0_add_28 : decode cX0_add 28 = .ok (.iastore, 1) := by decide +kernel
theorem dX0_add_29 : decode cX0_add 29 = .ok (.aload_n 0, 1) := by decide +kernel
theorem dX0_add_30 : decode cX0_add 30 = .ok (.dup, 1) := by decide +kernel
theorem dX0_add_31 : decode cX0_add 31 = .ok (.getfield 18, 3) := by decide +kernel
theorem dX0_add_34 : decode cX0_add 34 = .ok (.iconst 1, 1) := by decide +kernel
theorem dX0_add_35 : decode cX0_add 35 = .ok (.iadd, 1) := by decide +kernel
theorem dX0_add_36 : decode cX0_add 36 = .ok (.putfield 18, 3) := by decide +kernel
theorem dX0_add_39 : decode cX0_add 39 = .ok (.return_, 1) := by decide +kernel
theorem dX0_removeFirst_0 : decode cX0_removeFirst 0 = .ok (.aload_n 0, 1) := by decide +kernel
theorem dX0_removeFirst_1 : decode cX0_removeFirst 1 = .ok (.getfield 18, 3) := by decide +kernel
theorem dX0_removeFirst_4 : decode cX0_removeFirst 4 = .ok (.ifCond .le 47, 3) := by decide +kernel
theorem dX0_removeFirst_7 : decode cX0_removeFirst 7 = .ok (.aload_n 0, 1) := by decide +kernel
theorem dX0_removeFirst_8 : decode cX0_removeFirst 8 = .ok (.dup, 1) := by decide +kernel
theorem dX0_removeFirst_9 : decode cX0_removeFirst 9 = .ok (.getfield 18, 3) := by decide +kernel
theorem dX0_removeFirst_12 : decode cX0_removeFirst 12 = .ok (.iconst 1, 1) := by decide +kernel
theorem dX0_removeFirst_13 : decode cX0_removeFirst 13 = .ok (.isub, 1) := by decide +kernel
theorem dX0_removeFirst_14 : decode cX0_removeFirst 14 = .ok (.putfield 18, 3) := by decide +kernel
theorem dX0_removeFirst_17 : decode cX0_removeFirst 17 = .ok (.aload_n 0, 1) := by decide +kernel
theorem dX0_removeFirst_18 : decode cX0_removeFirst 18 = .ok (.getfield 9, 3) := by decide +kernel
theorem dX0_removeFirst_21 : decode cX0_removeFirst 21 = .ok (.iconst 1, 1) := by decide +kernel
theorem dX0_removeFirst_22 : decode cX0_removeFirst 22 = .ok (.aload_n 0, 1) := by decide +kernel
theorem dX0_removeFirst_23 : decode cX0_removeFirst 23 = .ok (.getfield 9, 3) := by decide +kernel
theorem dX0_removeFirst_26 : decode cX0_removeFirst 26 = .ok (.iconst 0, 1) := by decide +kernel
theorem dX0_removeFirst_27 : decode cX0_removeFirst 27 = .ok (.aload_n 0, 1) := by decide +kernel
theorem dX0_removeFirst_28 : decode cX0_removeFirst 28 = .ok (.getfield 18, 3) := by decide +kernel
theorem dX0_removeFirst_31 : decode cX0_removeFirst 31 = .ok (.invokestatic 22, 3) := by decide +kernel
theorem dX0_removeFirst_34 : decode cX0_removeFirst 34 = .ok (.aload_n 0, 1) := by decide +kernel
theorem dX0_removeFirst_35 : decode cX0_removeFirst 35 = .ok (.getfield 15, 3) := by decide +kernel
theorem dX0_removeFirst_38 : decode cX0_removeFirst 38 = .ok (.iconst 1, 1) := by decide +kernel
theorem dX0_removeFirst_39 : decode cX0_removeFirst 39 = .ok (.aload_n 0, 1) := by decide +kernel
theorem dX0_removeFirst_40 : decode cX0_removeFirst 40 = .ok (.getfield 15, 3) := by decide +kernel
theorem dX0_removeFirst_43 : decode cX0_removeFirst 43 = .ok (.iconst 0, 1) := by decide +kernel
theorem dX0_removeFirst_44 : decode cX0_removeFirst 44 = .ok (.aload_n 0, 1) := by decide +kernel
theorem dX0_removeFirst_45 : decode cX0_removeFirst 45 = .ok (.getfield 18, 3) := by decide +kernel
theorem dX0_removeFirst_48 : decode cX0_removeFirst 48 = .ok (.invokestatic 22, 3) := by decide +kernel
theorem dX0_removeFirst_51 : decode cX0_removeFirst 51 = .ok (.return_, 1) := by decide +kernel
theorem dX0_hasOneTo_0 : decode cX0_hasOneTo 0 = .ok (.iconst 0, 1) := by decide +kernel
theorem dX0_hasOneTo_1 : decode cX0_hasOneTo 1 = .ok (.istore_n 2, 1) := by decide +kernel
theorem dX0_hasOneTo_2 : decode cX0_hasOneTo 2 = .ok (.iload_n 2, 1) := by decide +kernel
theorem dX0_hasOneTo_3 : decode cX0_hasOneTo 3 = .ok (.aload_n 0, 1) := by decide +kernel
theorem dX0_hasOneTo_4 : decode cX0_hasOneTo 4 = .ok (.getfield 18, 3) := by decide +kernel
theorem dX0_hasOneTo_7 : decode cX0_hasOneTo 7 = .ok (.if_icmp .ge 21, 3) := by decide +kernel
theorem dX0_hasOneTo_10 : decode cX0_hasOneTo 10 = .ok (.aload_n 0, 1) := by decide +kernel
theorem dX0_hasOneTo_11 : decode cX0_hasOneTo 11 = .ok (.getfield 9, 3) := by decide +kernel
theorem dX0_hasOneTo_14 : decode cX0_hasOneTo 14 = .ok (.iload_n 2, 1) := by decide +kernel
theorem dX0_hasOneTo_15 : decode cX0_hasOneTo 15 = .ok (.iaload, 1) := by decide +kernel
theorem dX0_hasOneTo_16 : decode cX0_hasOneTo 16 = .ok (.iload_n 1, 1) := by decide +kernel
theorem dX0_hasOneTo_17 : decode cX0_hasOneTo 17 = .ok (.if_icmp .ne 5, 3) := by decide +kernel
theorem dX0_hasOneTo_20 : decode cX0_hasOneTo 20 = .ok (.iconst 1, 1) := by decide +kernel
theorem dX0_hasOneTo_21 : decode cX0_hasOneTo 21 = .ok (.ireturn, 1) := by decide +kernel
theorem dX0_hasOneTo_22 : decode cX0_hasOneTo 22 = .ok (.iinc 2 1, 3) := by decide +kernel
theorem dX0_hasOneTo_25 : decode cX0_hasOneTo 25 = .ok (.goto (-23), 3) := by decide +kernel
theorem dX0_hasOneTo_28 : decode cX0_hasOneTo 28 = .ok (.iconst 0, 1) := by decide +kernel
theorem dX0_hasOneTo_29 : decode cX0_hasOneTo 29 = .ok (.ireturn, 1) := by decide +kernel
theorem dX0_copyFrom_0 : decode cX0_copyFrom 0 = .ok (.aload_n 0, 1) := by decide +kernel
theorem dX0_copyFrom_1 : decode cX0_copyFrom 1 = .ok (.aload_n 1, 1) := by decide +kernel
theorem dX0_copyFrom_2 : decode cX0_copyFrom 2 = .ok (.getfield 18, 3) := by decide +kernel
theorem dX0_copyFrom_5 : decode cX0_copyFrom 5 = .ok (.putfield 18, 3) := by decide +kernel
theorem dX0_copyFrom_8 : decode cX0_copyFrom 8 = .ok (.aload_n 1, 1) := by decide +kernel
theorem dX0_copyFrom_9 : decode cX0_copyFrom 9 = .ok (.getfield 9, 3) := by decide +kernel
theorem dX0_copyFrom_12 : decode cX0_copyFrom 12 = .ok (.iconst 0, 1) := by decide +kernel
theorem dX0_copyFrom_13 : decode cX0_copyFrom 13 = .ok (.aload_n 0, 1) := by decide +kernel
theorem dX0_copyFrom_14 : decode cX0_copyFrom 14 = .ok (.getfield 9, 3) := by decide +kernel
theorem dX0_copyFrom_17 : decode cX0_copyFrom 17 = .ok (.iconst 0, 1) := by decide +kernel
theorem dX0_copyFrom_18 : decode cX0_copyFrom 18 = .ok (.bipush 6, 2) := by decide +kernel
theorem dX0_copyFrom_20 : decode cX0_copyFrom 20 = .ok (.invokestatic 22, 3) := by decide +kernel
theorem dX0_copyFrom_23 : decode cX0_copyFrom 23 = .ok (.aload_n 1, 1) := by decide +kernel
theorem dX0_copyFrom_24 : decode cX0_copyFrom 24 = .ok (.getfield 15, 3) := by decide +kernel
theorem dX0_copyFrom_27 : decode cX0_copyFrom 27 = .ok (.iconst 0, 1) := by decide +kernel
theorem dX0_copyFrom_28 : decode cX0_copyFrom 28 = .ok (.aload_n 0, 1) := by decide +kernel
theorem dX0_copyFrom_29 : decode cX0_copyFrom 29 = .ok (.getfield 15, 3) := by decide +kernel
theorem dX0_copyFrom_32 : decode cX0_copyFrom 32 = .ok (.iconst 0, 1) := by decide +kernel
theorem dX0_copyFrom_33 : decode cX0_copyFrom 33 = .ok (.bipush 6, 2) := by decide +kernel
theorem dX0_copyFrom_35 : decode cX0_copyFrom 35 = .ok (.invokestatic 22, 3) := by decide +kernel
theorem dX0_copyFrom_38 : decode cX0_copyFrom 38 = .ok (.return_, 1) := by decide +kernel
theorem dX1_init_0 : decode cX1_init 0 = .ok (.aload_n 0, 1) := by decide +kernel
theorem dX1_init_1 : decode cX1_init 1 = .ok (.invokespecial 3, 3) := by decide +kernel
theorem dX1_init_4 : decode cX1_init 4 = .ok (.aload_n 0, 1) := by decide +kernel
theorem dX1_init_5 : decode cX1_init 5 = .ok (.bipush 24, 2) := by decide +kernel
theorem dX1_init_7 : decode cX1_init 7 = .ok (.newarray .int, 2) := by decide +kernel
theorem dX1_init_9 : decode cX1_init 9 = .ok (.putfield 11, 3) := by decide +kernel
theorem dX1_init_12 : decode cX1_init 12 = .ok (.return_, 1) := by decide +kernel
theorem dX1_add_0 : decode cX1_add 0 = .ok (.aload_n 0, 1) := by decide +kernel
theorem dX1_add_1 : decode cX1_add 1 = .ok (.getfield 15, 3) := by decide +kernel
theorem dX1_add_4 : decode cX1_add 4 = .ok (.bipush 6, 2) := by decide +kernel
theorem dX1_add_6 : decode cX1_add 6 = .ok (.if_icmp .ne 32, 3) := by decide +kernel
theorem dX1_add_9 : decode cX1_add 9 = .ok (.aload_n 0, 1) := by decide +kernel
theorem dX1_add_10 : decode cX1_add 10 = .ok (.dup, 1) := by decide +kernel
theorem dX1_add_11 : decode cX1_add 11 = .ok (.getfield 15, 3) := by decide +kernel
theorem dX1_add_14 : decode cX1_add 14 = .ok (.iconst 1, 1) := by decide +kernel
theorem dX1_add_15 : decode cX1_add 15 = .ok (.isub, 1) := by decide +kernel
theorem dX1_add_16 : decode cX1_add 16 = .ok (.putfield 15, 3) := by decide +kernel
theorem dX1_add_19 : decode cX1_add 19 = .ok (.aload_n 0, 1) := by decide +kernel
theorem dX1_add_20 : decode cX1_add 20 = .ok (.getfield 11, 3) := by decide +kernel
theorem dX1_add_23 : decode cX1_add 23 = .ok (.iconst 4, 1) := by decide +kernel
theorem dX1_add_24 : decode cX1_add 24 = .ok (.aload_n 0, 1) := by decide +kernel
theorem dX1_add_25 : decode cX1_add 25 = .ok (.getfield 11, 3) := by decide +kernel
theorem dX1_add_28 : decode cX1_add 28 = .ok (.iconst 0, 1) := by decide +kernel
theorem dX1_add_29 : decode cX1_add 29 = .ok (.aload_n 0, 1) := by decide +kernel
theorem dX1_add_30 : decode cX1_add 30 = .ok (.getfield 15, 3) := by decide +kernel
theorem dX1_add_33 : decode cX1_add 33 = .ok (.iconst 4, 1) := by decide +kernel
theorem dX1_add_34 : decode cX1_add 34 = .ok (.imul, 1) := by decide +kernel
theorem dX1_add_35 : decode cX1_add 35 = .ok (.invokestatic 19, 3) := by decide +kernel
theorem dX1_add_38 : decode cX1_add 38 = .ok (.aload_n 0, 1) := by decide +kernel
theorem dX1_add_39 : decode cX1_add 39 = .ok (.getfield 15, 3) := by decide +kernel
theorem dX1_add_42 : decode cX1_add 42 = .ok (.iconst 4, 1) := by decide +kernel
theorem dX1_add_43 : decode cX1_add 43 = .ok (.imul, 1) := by decide +kernel
theorem dX1_add_44 : decode cX1_add 44 = .ok (.istore 5, 2) := by decide +kernel
theorem dX1_add_46 : decode cX1_add 46 = .ok (.aload_n 0, 1) := by decide +kernel
theorem dX1_add_47 : decode cX1_add 47 = .ok (.getfield 11, 3) := by decide +kernel
theorem dX1_add_50 : decode cX1_add 50 = .ok (.iload 5, 2) := by decide +kernel
theorem dX1_add_52 : decode cX1_add 52 = .ok (.iload_n 1, 1) := by decide +kernel
theorem dX1_add_53 : decode cX1_add 53 = .ok (.iastore, 1) := by decide +kernel
theorem dX1_add_54 : decode cX1_add 54 = .ok (.aload_n 0, 1) := by decide +kernel
theorem dX1_add_55 : decode cX1_add 55 = .ok (.getfield 11, 3) := by decide +kernel
theorem dX1_add_58 : decode cX1_add 58 = .ok (.iload 5, 2) := by decide +kernel
theorem dX1_add_60 : decode cX1_add 60 = .ok (.iconst 1, 1) := by decide +kernel
theorem dX1_add_61 : decode cX1_add 61 = .ok (.iadd, 1) := by decide +kernel
theorem dX1_add_62 : decode cX1_add 62 = .ok (.iload_n 2, 1) := by decide +kernel
theorem dX1_add_63 : decode cX1_add 63 = .ok (.iastore, 1) := by decide +kernel
theorem dX1_add_64 : decode cX1_add 64 = .ok (.aload_n 0, 1) := by decide +kernel
theorem dX1_add_65 : decode cX1_add 65 = .ok (.getfield 11, 3) := by decide +kernel
theorem dX1_add_68 : decode cX1_add 68 = .ok (.iload 5, 2) := by decide +kernel
theorem dX1_add_70 : decode cX1_add 70 = .ok (.iconst 2, 1) := by decide +kernel
theorem dX1_add_71 : decode cX1_add 71 = .ok (.iadd, 1) := by decide +kernel
theorem dX1_add_72 : decode cX1_add 72 = .ok (.iload_n 3, 1) := by decide +kernel
theorem dX1_add_73 : decode cX1_add 73 = .ok (.iastore, 1) := by decide +kernel
theorem dX1_add_74 : decode cX1_add 74 = .ok (.aload_n 0, 1) := by decide +kernel
theorem dX1_add_75 : decode cX1_add 75 = .ok (.getfield 11, 3) := by decide +kernel
theorem dX1_add_78 : decode cX1_add 78 = .ok (.iload 5, 2) := by decide +kernel
theorem dX1_add_80 : decode cX1_add 80 = .ok (.iconst 3, 1) := by decide +kernel
theorem dX1_add_81 : decode cX1_add 81 = .ok (.iadd, 1) := by decide +kernel
theorem dX1_add_82 : decode cX1_add 82 = .ok (.iload 4, 2) := by decide +kernel
theorem dX1_add_84 : decode cX1_add 84 = .ok (.iastore, 1) := by decide +kernel
theorem dX1_add_85 : decode cX1_add 85 = .ok (.aload_n 0, 1) := by decide +kernel
theorem dX1_add_86 : decode cX1_add 86 = .ok (.dup, 1) := by decide +kernel
theorem dX1_add_87 : decode cX1_add 87 = .ok (.getfield 15, 3) := by decide +kernel
theorem dX1_add_90 : decode cX1_add 90 = .ok (.iconst 1, 1) := by decide +kernel
theorem dX1_add_91 : decode cX1_add 91 = .ok (.iadd, 1) := by decide +kernel
theorem dX1_add_92 : decode cX1_add 92 = .ok (.putfield 15, 3) := by decide +kernel
theorem dX1_add_95 : decode cX1_add 95 = .ok (.return_, 1) := by decide +kernel
theorem dX1_read_0 : decode cX1_read 0 = .ok (.iload_n 1, 1) := by decide +kernel
theorem dX1_read_1 : decode cX1_read 1 = .ok (.ifCond .lt 20, 3) := by decide +kernel
theorem dX1_read_4 : decode cX1_read 4 = .ok (.iload_n 1, 1) := by decide +kernel
theorem dX1_read_5 : decode cX1_read 5 = .ok (.aload_n 0, 1) := by decide +kernel
theorem dX1_read_6 : decode cX1_read 6 = .ok (.getfield 15, 3) := by decide +kernel
theorem dX1_read_9 : decode cX1_read 9 = .ok (.if_icmp .ge 12, 3) := by decide +kernel
theorem dX1_read_12 : decode cX1_read 12 = .ok (.iload_n 2, 1) := by decide +kernel
theorem dX1_read_13 : decode cX1_read 13 = .ok (.ifCond .lt 8, 3) := by decide +kernel
theorem dX1_read_16 : decode cX1_read 16 = .ok (.iload_n 2, 1) := by decide +kernel
theorem dX1_read_17 : decode cX1_read 17 = .ok (.iconst 4, 1) := by decide +kernel
theorem dX1_read_18 : decode cX1_read 18 = .ok (.if_icmp .lt 6, 3) := by decide +kernel
theorem dX1_read_21 : decode cX1_read 21 = .ok (.bipush (-4), 2) := by decide +kernel
theorem dX1_read_23 : decode cX1_read 23 = .ok (.ireturn, 1) := by decide +kernel
theorem dX1_read_24 : decode cX1_read 24 = .ok (.aload_n 0, 1) := by decide +kernel
theorem dX1_read_25 : decode cX1_read 25 = .ok (.getfield 11, 3) := by decide +kernel
theorem dX1_read_28 : decode cX1_read 28 = .ok (.iload_n 1, 1) := by decide +kernel
theorem dX1_read_29 : decode cX1_read 29 = .ok (.iconst 4, 1) := by decide +kernel
theorem dX1_read_30 : decode cX1_read 30 = .ok (.imul, 1) := by decide +kernel
theorem dX1_read_31 : decode cX1_read 31 = .ok (.iload_n 2, 1) := by decide +kernel
theorem dX1_read_32 : decode cX1_read 32 = .ok (.iadd, 1) := by decide +kernel
theorem dX1_read_33 : decode cX1_read 33 = .ok (.iaload, 1) := by decide +kernel
theorem dX1_read_34 : decode cX1_read 34 = .ok (.ireturn, 1) := by decide +kernel
theorem dX1_copyFrom_0 : decode cX1_copyFrom 0 = .ok (.aload_n 0, 1) := by decide +kernel
theorem dX1_copyFrom_1 : decode cX1_copyFrom 1 = .ok (.aload_n 1, 1) := by decide +kernel
theorem dX1_copyFrom_2 : decode cX1_copyFrom 2 = .ok (.getfield 15, 3) := by decide +kernel
theorem dX1_copyFrom_5 : decode cX1_copyFrom 5 = .ok (.putfield 15, 3) := by decide +kernel
theorem dX1_copyFrom_8 : decode cX1_copyFrom 8 = .ok (.aload_n 1, 1) := by decide +kernel
theorem dX1_copyFrom_9 : decode cX1_copyFrom 9 = .ok (.getfield 11, 3) := by decide +kernel
theorem dX1_copyFrom_12 : decode cX1_copyFrom 12 = .ok (.iconst 0, 1) := by decide +kernel
theorem dX1_copyFrom_13 : decode cX1_copyFrom 13 = .ok (.aload_n 0, 1) := by decide +kernel
theorem dX1_copyFrom_14 : decode cX1_copyFrom 14 = .ok (.getfield 11, 3) := by decide +kernel
theorem dX1_copyFrom_17 : decode cX1_copyFrom 17 = .ok (.iconst 0, 1) := by decide +kernel
theorem dX1_copyFrom_18 : decode cX1_copyFrom 18 = .ok (.bipush 24, 2) := by decide +kernel
theorem dX1_copyFrom_20 : decode cX1_copyFrom 20 = .ok (.invokestatic 19, 3) := by decide +kernel
theorem dX1_copyFrom_23 : decode cX1_copyFrom 23 = .ok (.return_, 1) := by decide +kernel
theorem dX2_init_0 : decode cX2_init 0 = .ok (.aload_n 0, 1) := by decide +kernel
theorem dX2_init_1 : decode cX2_init 1 = .ok (.invokespecial 3, 3) := by decide +kernel
theorem dX2_init_4 : decode cX2_init 4 = .ok (.aload_n 0, 1) := by decide +kernel
theorem dX2_init_5 : decode cX2_init 5 = .ok (.bipush 10, 2) := by decide +kernel
theorem dX2_init_7 : decode cX2_init 7 = .ok (.newarray .int, 2) := by decide +kernel
theorem dX2_init_9 : decode cX2_init 9 = .ok (.putfield 9, 3) := by decide +kernel
theorem dX2_init_12 : decode cX2_init 12 = .ok (.aload_n 0, 1) := by decide +kernel
theorem dX2_init_13 : decode cX2_init 13 = .ok (.bipush 6, 2) := by decide +kernel
theorem dX2_init_15 : decode cX2_init 15 = .ok (.anewarray 15, 3) := by decide +kernel
theorem dX2_init_18 : decode cX2_init 18 = .ok (.putfield 17, 3) := by decide +kernel
theorem dX2_init_21 : decode cX2_init 21 = .ok (.iconst 0, 1) := by decide +kernel
theorem dX2_init_22 : decode cX2_init 22 = .ok (.istore_n 1, 1) := by decide +kernel
theorem dX2_init_23 : decode cX2_init 23 = .ok (.iload_n 1, 1) := by decide +kernel
theorem dX2_init_24 : decode cX2_init 24 = .ok (.bipush 6, 2) := by decide +kernel
theorem dX2_init_26 : decode cX2_init 26 = .ok (.if_icmp .ge 22, 3) := by decide +kernel
theorem dX2_init_29 : decode cX2_init 29 = .ok (.aload_n 0, 1) := by decide +kernel
theorem dX2_init_30 : decode cX2_init 30 = .ok (.getfield 17, 3) := by decide +kernel
theorem dX2_init_33 : decode cX2_init 33 = .ok (.iload_n 1, 1) := by decide +kernel
theorem dX2_init_34 : decode cX2_init 34 = .ok (.new 15, 3) := by decide +kernel
theorem dX2_init_37 : decode cX2_init 37 = .ok (.dup, 1) := by decide +kernel
theorem dX2_init_38 : decode cX2_init 38 = .ok (.invokespecial 21, 3) := by decide +kernel
theorem dX2_init_41 : decode cX2_init 41 = .ok (.aastore, 1) := by decide +kernel
theorem dX2_init_42 : decode cX2_init 42 = .ok (.iinc 1 1, 3) := by decide +kernel
theorem dX2_init_45 : decode cX2_init 45 = .ok (.goto (-22), 3) := by decide +kernel
theorem dX2_init_48 : decode cX2_init 48 = .ok (.return_, 1) := by decide +kernel
theorem dX2_clear_0 : decode cX2_clear 0 = .ok (.aload_n 0, 1) := by decide +kernel
theorem dX2_clear_1 : decode cX2_clear 1 = .ok (.iconst 0, 1) := by decide +kernel
theorem dX2_clear_2 : decode cX2_clear 2 = .ok (.putfield 22, 3) := by decide +kernel
theorem dX2_clear_5 : decode cX2_clear 5 = .ok (.aload_n 0, 1) := by decide +kernel
theorem dX2_clear_6 : decode cX2_clear 6 = .ok (.iconst 4, 1) := by decide +kernel
theorem dX2_clear_7 : decode cX2_clear 7 = .ok (.putfield 26, 3) := by decide +kernel
theorem dX2_clear_10 : decode cX2_clear 10 = .ok (.aload_n 0, 1) := by decide +kernel
theorem dX2_clear_11 : decode cX2_clear 11 = .ok (.bipush 32, 2) := by decide +kernel
theorem dX2_clear_13 : decode cX2_clear 13 = .ok (.putfield 29, 3) := by decide +kernel
theorem dX2_clear_16 : decode cX2_clear 16 = .ok (.aload_n 0, 1) := by decide +kernel
theorem dX2_clear_17 : decode cX2_clear 17 = .ok (.iconst 3, 1) := by decide +kernel
theorem dX2_clear_18 : decode cX2_clear 18 = .ok (.putfield 32, 3) := by decide +kernel
theorem dX2_clear_21 : decode cX2_clear 21 = .ok (.aload_n 0, 1) := by decide +kernel
theorem dX2_clear_22 : decode cX2_clear 22 = .ok (.iconst 5, 1) := by decide +kernel
theorem dX2_clear_23 : decode cX2_clear 23 = .ok (.putfield 35, 3) := by decide +kernel
theorem dX2_clear_26 : decode cX2_clear 26 = .ok (.aload_n 0, 1) := by decide +kernel
theorem dX2_clear_27 : decode cX2_clear 27 = .ok (.iconst 0, 1) := by decide +kernel
theorem dX2_clear_28 : decode cX2_clear 28 = .ok (.putfield 38, 3) := by decide +kernel
theorem dX2_clear_31 : decode cX2_clear 31 = .ok (.aload_n 0, 1) := by decide +kernel
theorem dX2_clear_32 : decode cX2_clear 32 = .ok (.iconst 0, 1) := by decide +kernel
theorem dX2_clear_33 : decode cX2_clear 33 = .ok (.putfield 41, 3) := by decide +kernel
theorem dX2_clear_36 : decode cX2_clear 36 = .ok (.aload_n 0, 1) := by decide +kernel
theorem dX2_clear_37 : decode cX2_clear 37 = .ok (.iconst 0, 1) := by decide +kernel
theorem dX2_clear_38 : decode cX2_clear 38 = .ok (.putfield 44, 3) := by decide +kernel
theorem dX2_clear_41 : decode cX2_clear 41 = .ok (.iconst 0, 1) := by decide +kernel
theorem dX2_clear_42 : decode cX2_clear 42 = .ok (.istore_n 1, 1) := by decide +kernel
theorem dX2_clear_43 : decode cX2_clear 43 = .ok (.iload_n 1, 1) := by decide +kernel
theorem dX2_clear_44 : decode cX2_clear 44 = .ok (.bipush 9, 2) := by decide +kernel
theorem dX2_clear_46 : decode cX2_clear 46 = .ok (.if_icmp .gt 16, 3) := by decide +kernel
theorem dX2_clear_49 : decode cX2_clear 49 = .ok (.aload_n 0, 1) := by decide +kernel
theorem dX2_clear_50 : decode cX2_clear 50 = .ok (.getfield 9, 3) := by decide +kernel
theorem dX2_clear_53 : decode cX2_clear 53 = .ok (.iload_n 1, 1) := by decide +kernel
theorem dX2_clear_54 : decode cX2_clear 54 = .ok (.iconst 0, 1) := by decide +kernel
theorem dX2_clear_55 : decode cX2_clear 55 = .ok (.iastore, 1) := by decide +kernel
theorem dX2_clear_56 : decode cX2_clear 56 = .ok (.iinc 1 1, 3) := by decide +kernel
theorem dX2_clear_59 : decode cX2_clear 59 = .ok (.goto (-16), 3) := by decide +kernel
theorem dX2_clear_62 : decode cX2_clear 62 = .ok (.iconst 0, 1) := by decide +kernel
theorem dX2_clear_63 : decode cX2_clear 63 = .ok (.istore_n 1, 1) := by decide +kernel
theorem dX2_clear_64 : decode cX2_clear 64 = .ok (.iload_n 1, 1) := by decide +kernel
theorem dX2_clear_65 : decode cX2_clear 65 = .ok (.bipush 6, 2) := by decide +kernel
theorem dX2_clear_67 : decode cX2_clear 67 = .ok (.if_icmp .ge 18, 3) := by decide +kernel
theorem dX2_clear_70 : decode cX2_clear 70 = .ok (.aload_n 0, 1) := by decide +kernel
theorem dX2_clear_71 : decode cX2_clear 71 = .ok (.getfield 17, 3) := by decide +kernel
theorem dX2_clear_74 : decode cX2_clear 74 = .ok (.iload_n 1, 1) := by decide +kernel
theorem dX2_clear_75 : decode cX2_clear 75 = .ok (.aaload, 1) := by decide +kernel
theorem dX2_clear_76 : decode cX2_clear 76 = .ok (.invokevirtual 47, 3) := by decide +kernel
theorem dX2_clear_79 : decode cX2_clear 79 = .ok (.iinc 1 1, 3) := by decide +kernel
theorem dX2_clear_82 : decode cX2_clear 82 = .ok (.goto (-18), 3) := by decide +kernel
theorem dX2_clear_85 : decode cX2_clear 85 = .ok (.return_, 1) := by decide +kernel
theorem dX2_copyFrom_0 : decode cX2_copyFrom 0 = .ok (.aload_n 0, 1) := by decide +kernel
theorem dX2_copyFrom_1 : decode cX2_copyFrom 1 = .ok (.aload_n 1, 1) := by decide +kernel
theorem dX2_copyFrom_2 : decode cX2_copyFrom 2 = .ok (.getfield 22, 3) := by decide +kernel
theorem dX2_copyFrom_5 : decode cX2_copyFrom 5 = .ok (.putfield 22, 3) := by decide +kernel
theorem dX2_copyFrom_8 : decode cX2_copyFrom 8 = .ok (.aload_n 0, 1) := by decide +kernel
theorem dX2_copyFrom_9 : decode cX2_copyFrom 9 = .ok (.aload_n 1, 1) := by decide +kernel
theorem dX2_copyFrom_10 : decode cX2_copyFrom 10 = .ok (.getfield 26, 3) := by decide +kernel
theorem dX2_copyFrom_13 : decode cX2_copyFrom 13 = .ok (.putfield 26, 3) := by decide +kernel
theorem dX2_copyFrom_16 : decode cX2_copyFrom 16 = .ok (.aload_n 0, 1) := by decide +kernel
theorem dX2_copyFrom_17 : decode cX2_copyFrom 17 = .ok (.aload_n 1, 1) := by decide +kernel
theorem dX2_copyFrom_18 : decode cX2_copyFrom 18 = .ok (.getfield 29, 3) := by decide +kernel
theorem dX2_copyFrom_21 : decode cX2_copyFrom 21 = .ok (.putfield 29, 3) := by decide +kernel
theorem dX2_copyFrom_24 : decode cX2_copyFrom 24 = .ok (.aload_n 0, 1) := by decide +kernel
theorem dX2_copyFrom_25 : decode cX2_copyFrom 25 = .ok (.aload_n 1, 1) := by decide +kernel
theorem dX2_copyFrom_26 : decode cX2_copyFrom 26 = .ok (.getfield 32, 3) := by decide +kernel
theorem dX2_copyFrom_29 : decode cX2_copyFrom 29 = .ok (.putfield 32, 3) := by decide +kernel
theorem dX2_copyFrom_32 : decode cX2_copyFrom 32 = .ok (.aload_n 0, 1) := by decide +kernel
theorem dX2_copyFrom_33 : decode cX2_copyFrom 33 = .ok (.aload_n 1, 1) := by decide +kernel
theorem dX2_copyFrom_34 : decode cX2_copyFrom 34 = .ok (.getfield 35, 3) := by decide +kernel
theorem dX2_copyFrom_37 : decode cX2_copyFrom 37 = .ok (.putfield 35, 3) := by decide +kernel
theorem dX2_copyFrom_40 : decode cX2_copyFrom 40 = .ok (.aload_n 0, 1) := by decide +kernel
theorem dX2_copyFrom_41 : decode cX2_copyFrom 41 = .ok (.aload_n 1, 1) := by decide +kernel
theorem dX2_copyFrom_42 : decode cX2_copyFrom 42 = .ok (.getfield 38, 3) := by decide +kernel
theorem dX2_copyFrom_45 : decode cX2_copyFrom 45 = .ok (.putfield 38, 3) := by decide +kernel
theorem dX2_copyFrom_48 : decode cX2_copyFrom 48 = .ok (.aload_n 0, 1) := by decide +kernel
theorem dX2_copyFrom_49 : decode cX2_copyFrom 49 = .ok (.aload_n 1, 1) := by decide +kernel
theorem dX2_copyFrom_50 : decode cX2_copyFrom 50 = .ok (.getfield 41, 3) := by decide +kernel
theorem dX2_copyFrom_53 : decode cX2_copyFrom 53 = .ok (.putfield 41, 3) := by decide +kernel
theorem dX2_copyFrom_56 : decode cX2_copyFrom 56 = .ok (.aload_n 0, 1) := by decide +kernel
theorem dX2_copyFrom_57 : decode cX2_copyFrom 57 = .ok (.aload_n 1, 1) := by decide +kernel
theorem dX2_copyFrom_58 : decode cX2_copyFrom 58 = .ok (.getfield 44, 3) := by decide +kernel
theorem dX2_copyFrom_61 : decode cX2_copyFrom 61 = .ok (.putfield 44, 3) := by decide +kernel
theorem dX2_copyFrom_64 : decode cX2_copyFrom 64 = .ok (.aload_n 1, 1) := by decide +kernel
theorem dX2_copyFrom_65 : decode cX2_copyFrom 65 = .ok (.getfield 9, 3) := by decide +kernel
theorem dX2_copyFrom_68 : decode cX2_copyFrom 68 = .ok (.iconst 0, 1) := by decide +kernel
theorem dX2_copyFrom_69 : decode cX2_copyFrom 69 = .ok (.aload_n 0, 1) := by decide +kernel
theorem dX2_copyFrom_70 : decode cX2_copyFrom 70 = .ok (.getfield 9, 3) := by decide +kernel
theorem dX2_copyFrom_73 : decode cX2_copyFrom 73 = .ok (.iconst 0, 1) := by decide +kernel
theorem dX2_copyFrom_74 : decode cX2_copyFrom 74 = .ok (.bipush 10, 2) := by decide +kernel
theorem dX2_copyFrom_76 : decode cX2_copyFrom 76 = .ok (.invokestatic 50, 3) := by decide +kernel
theorem dX2_copyFrom_79 : decode cX2_copyFrom 79 = .ok (.iconst 0, 1) := by decide +kernel
theorem dX2_copyFrom_80 : decode cX2_copyFrom 80 = .ok (.istore_n 2, 1) := by decide +kernel
theorem dX2_copyFrom_81 : decode cX2_copyFrom 81 = .ok (.iload_n 2, 1) := by decide +kernel
theorem dX2_copyFrom_82 : decode cX2_copyFrom 82 = .ok (.bipush 6, 2) := by decide +kernel
theorem dX2_copyFrom_84 : decode cX2_copyFrom 84 = .ok (.if_icmp .ge 24, 3) := by decide +kernel
theorem dX2_copyFrom_87 : decode cX2_copyFrom 87 = .ok (.aload_n 0, 1) := by decide +kernel
theorem dX2_copyFrom_88 : decode cX2_copyFrom 88 = .ok (.getfield 17, 3) := by decide +kernel
theorem dX2_copyFrom_91 : decode cX2_copyFrom 91 = .ok (.iload_n 2, 1) := by decide +kernel
theorem dX2_copyFrom_92 : decode cX2_copyFrom 92 = .ok (.aaload, 1) := by decide +kernel
theorem dX2_copyFrom_93 : decode cX2_copyFrom 93 = .ok (.aload_n 1, 1) := by decide +kernel
theorem dX2_copyFrom_94 : decode cX2_copyFrom 94 = .ok (.getfield 17, 3) := by decide +kernel
theorem dX2_copyFrom_97 : decode cX2_copyFrom 97 = .ok (.iload_n 2, 1) := by decide +kernel
theorem dX2_copyFrom_98 : decode cX2_copyFrom 98 = .ok (.aaload, 1) := by decide +kernel
theorem dX2_copyFrom_99 : decode cX2_copyFrom 99 = .ok (.invokevirtual 56, 3) := by decide +kernel
theorem dX2_copyFrom_102 : decode cX2_copyFrom 102 = .ok (.iinc 2 1, 3) := by decide +kernel
theorem dX2_copyFrom_105 : decode cX2_copyFrom 105 = .ok (.goto (-24), 3) := by decide +kernel
theorem dX2_copyFrom_108 : decode cX2_copyFrom 108 = .ok (.return_, 1) := by decide +kernel
theorem dX2_hears_0 : decode cX2_hears 0 = .ok (.aload_n 0, 1) := by decide +kernel
theorem dX2_hears_1 : decode cX2_hears 1 = .ok (.getfield 17, 3) := by decide +kernel
theorem dX2_hears_4 : decode cX2_hears 4 = .ok (.iload_n 1, 1) := by decide +kernel
theorem dX2_hears_5 : decode cX2_hears 5 = .ok (.aaload, 1) := by decide +kernel
theorem dX2_hears_6 : decode cX2_hears 6 = .ok (.getfield 60, 3) := by decide +kernel
theorem dX2_hears_9 : decode cX2_hears 9 = .ok (.iload_n 2, 1) := by decide +kernel
theorem dX2_hears_10 : decode cX2_hears 10 = .ok (.ishr, 1) := by decide +kernel
theorem dX2_hears_11 : decode cX2_hears 11 = .ok (.iconst 1, 1) := by decide +kernel
theorem dX2_hears_12 : decode cX2_hears 12 = .ok (.iand, 1) := by decide +kernel
theorem dX2_hears_13 : decode cX2_hears 13 = .ok (.iconst 1, 1) := by decide +kernel
theorem dX2_hears_14 : decode cX2_hears 14 = .ok (.if_icmp .ne 7, 3) := by decide +kernel
theorem dX2_hears_17 : decode cX2_hears 17 = .ok (.iconst 1, 1) := by decide +kernel
theorem dX2_hears_18 : decode cX2_hears 18 = .ok (.goto 4, 3) := by decide +kernel
theorem dX2_hears_21 : decode cX2_hears 21 = .ok (.iconst 0, 1) := by decide +kernel
theorem dX2_hears_22 : decode cX2_hears 22 = .ok (.ireturn, 1) := by decide +kernel
theorem dX2_join_0 : decode cX2_join 0 = .ok (.iload_n 3, 1) := by decide +kernel
theorem dX2_join_1 : decode cX2_join 1 = .ok (.ifCond .eq 40, 3) := by decide +kernel
theorem dX2_join_4 : decode cX2_join 4 = .ok (.aload_n 0, 1) := by decide +kernel
theorem dX2_join_5 : decode cX2_join 5 = .ok (.getfield 17, 3) := by decide +kernel
theorem dX2_join_8 : decode cX2_join 8 = .ok (.iload_n 1, 1) := by decide +kernel
theorem dX2_join_9 : decode cX2_join 9 = .ok (.aaload, 1) := by decide +kernel
theorem dX2_join_10 : decode cX2_join 10 = .ok (.dup, 1) := by decide +kernel
theorem dX2_join_11 : decode cX2_join 11 = .ok (.getfield 60, 3) := by decide +kernel
theorem dX2_join_14 : decode cX2_join 14 = .ok (.iconst 1, 1) := by decide +kernel
theorem dX2_join_15 : decode cX2_join 15 = .ok (.iload_n 2, 1) := by decide +kernel
theorem dX2_join_16 : decode cX2_join 16 = .ok (.ishl, 1) := by decide +kernel
theorem dX2_join_17 : decode cX2_join 17 = .ok (.ior, 1) := by decide +kernel
theorem dX2_join_18 : decode cX2_join 18 = .ok (.putfield 60, 3) := by decide +kernel
theorem dX2_join_21 : decode cX2_join 21 = .ok (.aload_n 0, 1) := by decide +kernel
theorem dX2_join_22 : decode cX2_join 22 = .ok (.getfield 17, 3) := by decide +kernel
theorem dX2_join_25 : decode cX2_join 25 = .ok (.iload_n 2, 1) := by decide +kernel
theorem dX2_join_26 : decode cX2_join 26 = .ok (.aaload, 1) := by decide +kernel
theorem dX2_join_27 : decode cX2_join 27 = .ok (.dup, 1) := by decide +kernel
theorem dX2_join_28 : decode cX2_join 28 = .ok (.getfield 60, 3) := by decide +kernel
theorem dX2_join_31 : decode cX2_join 31 = .ok (.iconst 1, 1) := by decide +kernel
theorem dX2_join_32 : decode cX2_join 32 = .ok (.iload_n 1, 1) := by decide +kernel
theorem dX2_join_33 : decode cX2_join 33 = .ok (.ishl, 1) := by decide +kernel
theorem dX2_join_34 : decode cX2_join 34 = .ok (.ior, 1) := by decide +kernel
theorem dX2_join_35 : decode cX2_join 35 = .ok (.putfield 60, 3) := by decide +kernel
theorem dX2_join_38 : decode cX2_join 38 = .ok (.goto 41, 3) := by decide +kernel
theorem dX2_join_41 : decode cX2_join 41 = .ok (.aload_n 0, 1) := by decide +kernel
theorem dX2_join_42 : decode cX2_join 42 = .ok (.getfield 17, 3) := by decide +kernel
theorem dX2_join_45 : decode cX2_join 45 = .ok (.iload_n 1, 1) := by decide +kernel
theorem dX2_join_46 : decode cX2_join 46 = .ok (.aaload, 1) := by decide +kernel
theorem dX2_join_47 : decode cX2_join 47 = .ok (.dup, 1) := by decide +kernel
theorem dX2_join_48 : decode cX2_join 48 = .ok (.getfield 60, 3) := by decide +kernel
theorem dX2_join_51 : decode cX2_join 51 = .ok (.iconst 1, 1) := by decide +kernel
theorem dX2_join_52 : decode cX2_join 52 = .ok (.iload_n 2, 1) := by decide +kernel
theorem dX2_join_53 : decode cX2_join 53 = .ok (.ishl, 1) := by decide +kernel
theorem dX2_join_54 : decode cX2_join 54 = .ok (.iconst (-1), 1) := by decide +kernel
theorem dX2_join_55 : decode cX2_join 55 = .ok (.ixor, 1) := by decide +kernel
theorem dX2_join_56 : decode cX2_join 56 = .ok (.iand, 1) := by decide +kernel
theorem dX2_join_57 : decode cX2_join 57 = .ok (.putfield 60, 3) := by decide +kernel
theorem dX2_join_60 : decode cX2_join 60 = .ok (.aload_n 0, 1) := by decide +kernel
theorem dX2_join_61 : decode cX2_join 61 = .ok (.getfield 17, 3) := by decide +kernel
theorem dX2_join_64 : decode cX2_join 64 = .ok (.iload_n 2, 1) := by decide +kernel
theorem dX2_join_65 : decode cX2_join 65 = .ok (.aaload, 1) := by decide +kernel
theorem dX2_join_66 : decode cX2_join 66 = .ok (.dup, 1) := by decide +kernel
theorem dX2_join_67 : decode cX2_join 67 = .ok (.getfield 60, 3) := by decide +kernel
theorem dX2_join_70 : decode cX2_join 70 = .ok (.iconst 1, 1) := by decide +kernel
theorem dX2_join_71 : decode cX2_join 71 = .ok (.iload_n 1, 1) := by decide +kernel
theorem dX2_join_72 : decode cX2_join 72 = .ok (.ishl, 1) := by decide +kernel
theorem dX2_join_73 : decode cX2_join 73 = .ok (.iconst (-1), 1) := by decide +kernel
theorem dX2_join_74 : decode cX2_join 74 = .ok (.ixor, 1) := by decide +kernel
theorem dX2_join_75 : decode cX2_join 75 = .ok (.iand, 1) := by decide +kernel
theorem dX2_join_76 : decode cX2_join 76 = .ok (.putfield 60, 3) := by decide +kernel
theorem dX2_join_79 : decode cX2_join 79 = .ok (.return_, 1) := by decide +kernel
theorem dX2_nearness_0 : decode cX2_nearness 0 = .ok (.aload_n 0, 1) := by decide +kernel
theorem dX2_nearness_1 : decode cX2_nearness 1 = .ok (.iload_n 1, 1) := by decide +kernel
theorem dX2_nearness_2 : decode cX2_nearness 2 = .ok (.iload_n 2, 1) := by decide +kernel
theorem dX2_nearness_3 : decode cX2_nearness 3 = .ok (.invokevirtual 63, 3) := by decide +kernel
theorem dX2_nearness_6 : decode cX2_nearness 6 = .ok (.ifCond .eq 5, 3) := by decide +kernel
theorem dX2_nearness_9 : decode cX2_nearness 9 = .ok (.iconst 0, 1) := by decide +kernel
theorem dX2_nearness_10 : decode cX2_nearness 10 = .ok (.ireturn, 1) := by decide +kernel
theorem dX2_nearness_11 : decode cX2_nearness 11 = .ok (.aload_n 0, 1) := by decide +kernel
theorem dX2_nearness_12 : decode cX2_nearness 12 = .ok (.getfield 17, 3) := by decide +kernel
theorem dX2_nearness_15 : decode cX2_nearness 15 = .ok (.iload_n 1, 1) := by decide +kernel
theorem dX2_nearness_16 : decode cX2_nearness 16 = .ok (.aaload, 1) := by decide +kernel
theorem dX2_nearness_17 : decode cX2_nearness 17 = .ok (.getfield 60, 3) := by decide +kernel
theorem dX2_nearness_20 : decode cX2_nearness 20 = .ok (.aload_n 0, 1) := by decide +kernel
theorem dX2_nearness_21 : decode cX2_nearness 21 = .ok (.getfield 17, 3) := by decide +kernel
theorem dX2_nearness_24 : decode cX2_nearness 24 = .ok (.iload_n 2, 1) := by decide +kernel
theorem dX2_nearness_25 : decode cX2_nearness 25 = .ok (.aaload, 1) := by decide +kernel
theorem dX2_nearness_26 : decode cX2_nearness 26 = .ok (.getfield 60, 3) := by decide +kernel
theorem dX2_nearness_29 : decode cX2_nearness 29 = .ok (.iand, 1) := by decide +kernel
theorem dX2_nearness_30 : decode cX2_nearness 30 = .ok (.ifCond .eq 7, 3) := by decide +kernel
theorem dX2_nearness_33 : decode cX2_nearness 33 = .ok (.iconst 1, 1) := by decide +kernel
theorem dX2_nearness_34 : decode cX2_nearness 34 = .ok (.goto 4, 3) := by decide +kernel
theorem dX2_nearness_37 : decode cX2_nearness 37 = .ok (.iconst 2, 1) := by decide +kernel
theorem dX2_nearness_38 : decode cX2_nearness 38 = .ok (.ireturn, 1) := by decide +kernel
theorem dX2_pairsOf_0 : decode cX2_pairsOf 0 = .ok (.iconst 0, 1) := by decide +kernel
theorem dX2_pairsOf_1 : decode cX2_pairsOf 1 = .ok (.istore_n 2, 1) := by decide +kernel
theorem dX2_pairsOf_2 : decode cX2_pairsOf 2 = .ok (.iconst 0, 1) := by decide +kernel
theorem dX2_pairsOf_3 : decode cX2_pairsOf 3 = .ok (.istore_n 3, 1) := by decide +kernel
theorem dX2_pairsOf_4 : decode cX2_pairsOf 4 = .ok (.iload_n 3, 1) := by decide +kernel
theorem dX2_pairsOf_5 : decode cX2_pairsOf 5 = .ok (.aload_n 0, 1) := by decide +kernel
theorem dX2_pairsOf_6 : decode cX2_pairsOf 6 = .ok (.getfield 22, 3) := by decide +kernel
theorem dX2_pairsOf_9 : decode cX2_pairsOf 9 = .ok (.if_icmp .ge 43, 3) := by decide +kernel
theorem dX2_pairsOf_12 : decode cX2_pairsOf 12 = .ok (.iload_n 3, 1) := by decide +kernel
theorem dX2_pairsOf_13 : decode cX2_pairsOf 13 = .ok (.iconst 1, 1) := by decide +kernel
theorem dX2_pairsOf_14 : decode cX2_pairsOf 14 = .ok (.iadd, 1) := by decide +kernel
theorem dX2_pairsOf_15 : decode cX2_pairsOf 15 = .ok (.istore 4, 2) := by decide +kernel
theorem dX2_pairsOf_17 : decode cX2_pairsOf 17 = .ok (.iload 4, 2) := by decide +kernel
theorem dX2_pairsOf_19 : decode cX2_pairsOf 19 = .ok (.aload_n 0, 1) := by decide +kernel
theorem dX2_pairsOf_20 : decode cX2_pairsOf 20 = .ok (.getfield 22, 3) := by decide +kernel
theorem dX2_pairsOf_23 : decode cX2_pairsOf 23 = .ok (.if_icmp .ge 23, 3) := by decide +kernel
theorem dX2_pairsOf_26 : decode cX2_pairsOf 26 = .ok (.aload_n 0, 1) := by decide +kernel
theorem dX2_pairsOf_27 : decode cX2_pairsOf 27 = .ok (.iload_n 3, 1) := by decide +kernel
theorem dX2_pairsOf_28 : decode cX2_pairsOf 28 = .ok (.iload 4, 2) := by decide +kernel
theorem dX2_pairsOf_30 : decode cX2_pairsOf 30 = .ok (.invokevirtual 66, 3) := by decide +kernel
theorem dX2_pairsOf_33 : decode cX2_pairsOf 33 = .ok (.iload_n 1, 1) := by decide +kernel
theorem dX2_pairsOf_34 : decode cX2_pairsOf 34 = .ok (.if_icmp .ne 6, 3) := by decide +kernel
theorem dX2_pairsOf_37 : decode cX2_pairsOf 37 = .ok (.iinc 2 1, 3) := by decide +kernel
theorem dX2_pairsOf_40 : decode cX2_pairsOf 40 = .ok (.iinc 4 1, 3) := by decide +kernel
theorem dX2_pairsOf_43 : decode cX2_pairsOf 43 = .ok (.goto (-26), 3) := by decide +kernel
theorem dX2_pairsOf_46 : decode cX2_pairsOf 46 = .ok (.iinc 3 1, 3) := by decide +kernel
theorem dX2_pairsOf_49 : decode cX2_pairsOf 49 = .ok (.goto (-45), 3) := by decide +kernel
theorem dX2_pairsOf_52 : decode cX2_pairsOf 52 = .ok (.iload_n 2, 1) := by decide +kernel
theorem dX2_pairsOf_53 : decode cX2_pairsOf 53 = .ok (.ireturn, 1) := by decide +kernel
theorem dX2_isAsked_0 : decode cX2_isAsked 0 = .ok (.iload_n 1, 1) := by decide +kernel
theorem dX2_isAsked_1 : decode cX2_isAsked 1 = .ok (.aload_n 0, 1) := by decide +kernel
theorem dX2_isAsked_2 : decode cX2_isAsked 2 = .ok (.getfield 32, 3) := by decide +kernel
theorem dX2_isAsked_5 : decode cX2_isAsked 5 = .ok (.if_icmp .lt 7, 3) := by decide +kernel
theorem dX2_isAsked_8 : decode cX2_isAsked 8 = .ok (.iconst 1, 1) := by decide +kernel
theorem dX2_isAsked_9 : decode cX2_isAsked 9 = .ok (.goto 4, 3) := by decide +kernel
theorem dX2_isAsked_12 : decode cX2_isAsked 12 = .ok (.iconst 0, 1) := by decide +kernel
theorem dX2_isAsked_13 : decode cX2_isAsked 13 = .ok (.ireturn, 1) := by decide +kernel
theorem dX2_totalOf_0 : decode cX2_totalOf 0 = .ok (.iconst 0, 1) := by decide +kernel
theorem dX2_totalOf_1 : decode cX2_totalOf 1 = .ok (.istore_n 2, 1) := by decide +kernel
theorem dX2_totalOf_2 : decode cX2_totalOf 2 = .ok (.iconst 0, 1) := by decide +kernel
theorem dX2_totalOf_3 : decode cX2_totalOf 3 = .ok (.istore_n 3, 1) := by decide +kernel
theorem dX2_totalOf_4 : decode cX2_totalOf 4 = .ok (.iload_n 3, 1) := by decide +kernel
theorem dX2_totalOf_5 : decode cX2_totalOf 5 = .ok (.aload_n 0, 1) := by decide +kernel
theorem dX2_totalOf_6 : decode cX2_totalOf 6 = .ok (.getfield 22, 3) := by decide +kernel
theorem dX2_totalOf_9 : decode cX2_totalOf 9 = .ok (.if_icmp .ge 22, 3) := by decide +kernel
theorem dX2_totalOf_12 : decode cX2_totalOf 12 = .ok (.iload_n 2, 1) := by decide +kernel
theorem dX2_totalOf_13 : decode cX2_totalOf 13 = .ok (.aload_n 0, 1) := by decide +kernel
theorem dX2_totalOf_14 : decode cX2_totalOf 14 = .ok (.getfield 17, 3) := by decide +kernel
theorem dX2_totalOf_17 : decode cX2_totalOf 17 = .ok (.iload_n 3, 1) := by decide +kernel
theorem dX2_totalOf_18 : decode cX2_totalOf 18 = .ok (.aaload, 1) := by decide +kernel
theorem dX2_totalOf_19 : decode cX2_totalOf 19 = .ok (.iload_n 1, 1) := by decide +kernel
theorem dX2_totalOf_20 : decode cX2_totalOf 20 = .ok (.invokevirtual 70, 3) := by decide +kernel
theorem dX2_totalOf_23 : decode cX2_totalOf 23 = .ok (.iadd, 1) := by decide +kernel
theorem dX2_totalOf_24 : decode cX2_totalOf 24 = .ok (.istore_n 2, 1) := by decide +kernel
theorem dX2_totalOf_25 : decode cX2_totalOf 25 = .ok (.iinc 3 1, 3) := by decide +kernel
theorem dX2_totalOf_28 : decode cX2_totalOf 28 = .ok (.goto (-24), 3) := by decide +kernel
theorem dX2_totalOf_31 : decode cX2_totalOf 31 = .ok (.iload_n 2, 1) := by decide +kernel
theorem dX2_totalOf_32 : decode cX2_totalOf 32 = .ok (.ireturn, 1) := by decide +kernel
theorem dX2_drawFirstWaits_0 : decode cX2_drawFirstWaits 0 = .ok (.iconst 0, 1) := by decide +kernel
theorem dX2_drawFirstWaits_1 : decode cX2_drawFirstWaits 1 = .ok (.istore_n 1, 1) := by decide +kernel
theorem dX2_drawFirstWaits_2 : decode cX2_drawFirstWaits 2 = .ok (.iload_n 1, 1) := by decide +kernel
theorem dX2_drawFirstWaits_3 : decode cX2_drawFirstWaits 3 = .ok (.aload_n 0, 1) := by decide +kernel
theorem dX2_drawFirstWaits_4 : decode cX2_drawFirstWaits 4 = .ok (.getfield 22, 3) := by decide +kernel
theorem dX2_drawFirstWaits_7 : decode cX2_drawFirstWaits 7 = .ok (.if_icmp .ge 27, 3) := by decide +kernel
theorem dX2_drawFirstWaits_10 : decode cX2_drawFirstWaits 10 = .ok (.aload_n 0, 1) := by decide +kernel
theorem dX2_drawFirstWaits_11 : decode cX2_drawFirstWaits 11 = .ok (.getfield 17, 3) := by decide +kernel
theorem dX2_drawFirstWaits_14 : decode cX2_drawFirstWaits 14 = .ok (.iload_n 1, 1) := by decide +kernel
theorem dX2_drawFirstWaits_15 : decode cX2_drawFirstWaits 15 = .ok (.aaload, 1) := by decide +kernel
theorem dX2_drawFirstWaits_16 : decode cX2_drawFirstWaits 16 = .ok (.aload_n 0, 1) := by decide +kernel
theorem dX2_drawFirstWaits_17 : decode cX2_drawFirstWaits 17 = .ok (.getfield 26, 3) := by decide +kernel
theorem dX2_drawFirstWaits_20 : decode cX2_drawFirstWaits 20 = .ok (.putfield 74, 3) := by decide +kernel
theorem dX2_drawFirstWaits_23 : decode cX2_drawFirstWaits 23 = .ok (.aload_n 0, 1) := by decide +kernel
theorem dX2_drawFirstWaits_24 : decode cX2_drawFirstWaits 24 = .ok (.iload_n 1, 1) := by decide +kernel
theorem dX2_drawFirstWaits_25 : decode cX2_drawFirstWaits 25 = .ok (.invokevirtual 77, 3) := by decide +kernel
theorem dX2_drawFirstWaits_28 : decode cX2_drawFirstWaits 28 = .ok (.iinc 1 1, 3) := by decide +kernel
theorem dX2_drawFirstWaits_31 : decode cX2_drawFirstWaits 31 = .ok (.goto (-29), 3) := by decide +kernel
theorem dX2_drawFirstWaits_34 : decode cX2_drawFirstWaits 34 = .ok (.return_, 1) := by decide +kernel
theorem dX2_drawWait_0 : decode cX2_drawWait 0 = .ok (.aload_n 0, 1) := by decide +kernel
theorem dX2_drawWait_1 : decode cX2_drawWait 1 = .ok (.getfield 17, 3) := by decide +kernel
theorem dX2_drawWait_4 : decode cX2_drawWait 4 = .ok (.iload_n 1, 1) := by decide +kernel
theorem dX2_drawWait_5 : decode cX2_drawWait 5 = .ok (.aaload, 1) := by decide +kernel
theorem dX2_drawWait_6 : decode cX2_drawWait 6 = .ok (.astore_n 2, 1) := by decide +kernel
theorem dX2_drawWait_7 : decode cX2_drawWait 7 = .ok (.aload_n 2, 1) := by decide +kernel
theorem dX2_drawWait_8 : decode cX2_drawWait 8 = .ok (.getfield 81, 3) := by decide +kernel
theorem dX2_drawWait_11 : decode cX2_drawWait 11 = .ok (.getfield 85, 3) := by decide +kernel
theorem dX2_drawWait_14 : decode cX2_drawWait 14 = .ok (.ifCond .eq 11, 3) := by decide +kernel
theorem dX2_drawWait_17 : decode cX2_drawWait 17 = .ok (.aload_n 2, 1) := by decide +kernel
theorem dX2_drawWait_18 : decode cX2_drawWait 18 = .ok (.getfield 74, 3) := by decide +kernel
theorem dX2_drawWait_21 : decode cX2_drawWait 21 = .ok (.iconst 1, 1) := by decide +kernel
theorem dX2_drawWait_22 : decode cX2_drawWait 22 = .ok (.if_icmp .ge 9, 3) := by decide +kernel
theorem dX2_drawWait_25 : decode cX2_drawWait 25 = .ok (.aload_n 2, 1) := by decide +kernel
theorem dX2_drawWait_26 : decode cX2_drawWait 26 = .ok (.iconst 0, 1) := by decide +kernel
theorem dX2_drawWait_27 : decode cX2_drawWait 27 = .ok (.putfield 90, 3) := by decide +kernel
theorem dX2_drawWait_30 : decode cX2_drawWait 30 = .ok (.return_, 1) := by decide +kernel
theorem dX2_drawWait_31 : decode cX2_drawWait 31 = .ok (.aload_n 2, 1) := by decide +kernel
theorem dX2_drawWait_32 : decode cX2_drawWait 32 = .ok (.aload_n 0, 1) := by decide +kernel
theorem dX2_drawWait_33 : decode cX2_drawWait 33 = .ok (.getfield 38, 3) := by decide +kernel
theorem dX2_drawWait_36 : decode cX2_drawWait 36 = .ok (.iload_n 1, 1) := by decide +kernel
theorem dX2_drawWait_37 : decode cX2_drawWait 37 = .ok (.aload_n 2, 1) := by decide +kernel
theorem dX2_drawWait_38 : decode cX2_drawWait 38 = .ok (.getfield 93, 3) := by decide +kernel
theorem dX2_drawWait_41 : decode cX2_drawWait 41 = .ok (.invokestatic 96, 3) := by decide +kernel
theorem dX2_drawWait_44 : decode cX2_drawWait 44 = .ok (.aload_n 2, 1) := by decide +kernel
theorem dX2_drawWait_45 : decode cX2_drawWait 45 = .ok (.getfield 74, 3) := by decide +kernel
theorem dX2_drawWait_48 : decode cX2_drawWait 48 = .ok (.irem, 1) := by decide +kernel
theorem dX2_drawWait_49 : decode cX2_drawWait 49 = .ok (.putfield 90, 3) := by decide +kernel
theorem dX2_drawWait_52 : decode cX2_drawWait 52 = .ok (.aload_n 2, 1) := by decide +kernel
theorem dX2_drawWait_53 : decode cX2_drawWait 53 = .ok (.dup, 1) := by decide +kernel
theorem dX2_drawWait_54 : decode cX2_drawWait 54 = .ok (.getfield 93, 3) := by decide +kernel
theorem dX2_drawWait_57 : decode cX2_drawWait 57 = .ok (.iconst 1, 1) := by decide +kernel
theorem dX2_drawWait_58 : decode cX2_drawWait 58 = .ok (.iadd, 1) := by decide +kernel
theorem dX2_drawWait_59 : decode cX2_drawWait 59 = .ok (.putfield 93, 3) := by decide +kernel
theorem dX2_drawWait_62 : decode cX2_drawWait 62 = .ok (.return_, 1) := by decide +kernel
theorem dX2_mayBegin_0 : decode cX2_mayBegin 0 = .ok (.aload_n 0, 1) := by decide +kernel
theorem dX2_mayBegin_1 : decode cX2_mayBegin 1 = .ok (.getfield 41, 3) := by decide +kernel
theorem dX2_mayBegin_4 : decode cX2_mayBegin 4 = .ok (.iconst 1, 1) := by decide +kernel
theorem dX2_mayBegin_5 : decode cX2_mayBegin 5 = .ok (.iadd, 1) := by decide +kernel
theorem dX2_mayBegin_6 : decode cX2_mayBegin 6 = .ok (.aload_n 1, 1) := by decide +kernel
theorem dX2_mayBegin_7 : decode cX2_mayBegin 7 = .ok (.getfield 100, 3) := by decide +kernel
theorem dX2_mayBegin_10 : decode cX2_mayBegin 10 = .ok (.if_icmp .le 19, 3) := by decide +kernel
theorem dX2_mayBegin_13 : decode cX2_mayBegin 13 = .ok (.aload_n 0, 1) := by decide +kernel
theorem dX2_mayBegin_14 : decode cX2_mayBegin 14 = .ok (.getfield 44, 3) := by decide +kernel
theorem dX2_mayBegin_17 : decode cX2_mayBegin 17 = .ok (.aload_n 1, 1) := by decide +kernel
theorem dX2_mayBegin_18 : decode cX2_mayBegin 18 = .ok (.getfield 60, 3) := by decide +kernel
theorem dX2_mayBegin_21 : decode cX2_mayBegin 21 = .ok (.iand, 1) := by decide +kernel
theorem dX2_mayBegin_22 : decode cX2_mayBegin 22 = .ok (.ifCond .ne 7, 3) := by decide +kernel
theorem dX2_mayBegin_25 : decode cX2_mayBegin 25 = .ok (.iconst 1, 1) := by decide +kernel
theorem dX2_mayBegin_26 : decode cX2_mayBegin 26 = .ok (.goto 4, 3) := by decide +kernel
theorem dX2_mayBegin_29 : decode cX2_mayBegin 29 = .ok (.iconst 0, 1) := by decide +kernel
theorem dX2_mayBegin_30 : decode cX2_mayBegin 30 = .ok (.istore_n 2, 1) := by decide +kernel
theorem dX2_mayBegin_31 : decode cX2_mayBegin 31 = .ok (.iload_n 2, 1) := by decide +kernel
theorem dX2_mayBegin_32 : decode cX2_mayBegin 32 = .ok (.ifCond .eq 24, 3) := by decide +kernel
theorem dX2_mayBegin_35 : decode cX2_mayBegin 35 = .ok (.aload_n 1, 1) := by decide +kernel
theorem dX2_mayBegin_36 : decode cX2_mayBegin 36 = .ok (.getfield 103, 3) := by decide +kernel
theorem dX2_mayBegin_39 : decode cX2_mayBegin 39 = .ok (.ifCond .ne 17, 3) := by decide +kernel
theorem dX2_mayBegin_42 : decode cX2_mayBegin 42 = .ok (.aload_n 1, 1) := by decide +kernel
theorem dX2_mayBegin_43 : decode cX2_mayBegin 43 = .ok (.getfield 81, 3) := by decide +kernel
theorem dX2_mayBegin_46 : decode cX2_mayBegin 46 = .ok (.getfield 85, 3) := by decide +kernel
theorem dX2_mayBegin_49 : decode cX2_mayBegin 49 = .ok (.ifCond .le 7, 3) := by decide +kernel
theorem dX2_mayBegin_52 : decode cX2_mayBegin 52 = .ok (.iconst 1, 1) := by decide +kernel
theorem dX2_mayBegin_53 : decode cX2_mayBegin 53 = .ok (.goto 4, 3) := by decide +kernel
theorem dX2_mayBegin_56 : decode cX2_mayBegin 56 = .ok (.iconst 0, 1) := by decide +kernel
theorem dX2_mayBegin_57 : decode cX2_mayBegin 57 = .ok (.ireturn, 1) := by decide +kernel
theorem dX2_kindToSend_0 : decode cX2_kindToSend 0 = .ok (.aload_n 1, 1) := by decide +kernel
theorem dX2_kindToSend_1 : decode cX2_kindToSend 1 = .ok (.getfield 106, 3) := by decide +kernel
theorem dX2_kindToSend_4 : decode cX2_kindToSend 4 = .ok (.getfield 110, 3) := by decide +kernel
theorem dX2_kindToSend_7 : decode cX2_kindToSend 7 = .ok (.ifCond .eq 11, 3) := by decide +kernel
theorem dX2_kindToSend_10 : decode cX2_kindToSend 10 = .ok (.aload_n 1, 1) := by decide +kernel
theorem dX2_kindToSend_11 : decode cX2_kindToSend 11 = .ok (.getfield 106, 3) := by decide +kernel
theorem dX2_kindToSend_14 : decode cX2_kindToSend 14 = .ok (.getfield 110, 3) := by decide +kernel
theorem dX2_kindToSend_17 : decode cX2_kindToSend 17 = .ok (.ireturn, 1) := by decide +kernel
theorem dX2_kindToSend_18 : decode cX2_kindToSend 18 = .ok (.aload_n 1, 1) := by decide +kernel
theorem dX2_kindToSend_19 : decode cX2_kindToSend 19 = .ok (.getfield 115, 3) := by decide +kernel
theorem dX2_kindToSend_22 : decode cX2_kindToSend 22 = .ok (.ifCond .eq 5, 3) := by decide +kernel
theorem dX2_kindToSend_25 : decode cX2_kindToSend 25 = .ok (.iconst 3, 1) := by decide +kernel
theorem dX2_kindToSend_26 : decode cX2_kindToSend 26 = .ok (.ireturn, 1) := by decide +kernel
theorem dX2_kindToSend_27 : decode cX2_kindToSend 27 = .ok (.aload_n 1, 1) := by decide +kernel
theorem dX2_kindToSend_28 : decode cX2_kindToSend 28 = .ok (.getfield 90, 3) := by decide +kernel
theorem dX2_kindToSend_31 : decode cX2_kindToSend 31 = .ok (.ifCond .gt 11, 3) := by decide +kernel
theorem dX2_kindToSend_34 : decode cX2_kindToSend 34 = .ok (.aload_n 0, 1) := by decide +kernel
theorem dX2_kindToSend_35 : decode cX2_kindToSend 35 = .ok (.aload_n 1, 1) := by decide +kernel
theorem dX2_kindToSend_36 : decode cX2_kindToSend 36 = .ok (.invokevirtual 119, 3) := by decide +kernel
theorem dX2_kindToSend_39 : decode cX2_kindToSend 39 = .ok (.ifCond .ne 5, 3) := by decide +kernel
theorem dX2_kindToSend_42 : decode cX2_kindToSend 42 = .ok (.iconst 0, 1) := by decide +kernel
theorem dX2_kindToSend_43 : decode cX2_kindToSend 43 = .ok (.ireturn, 1) := by decide +kernel
theorem dX2_kindToSend_44 : decode cX2_kindToSend 44 = .ok (.aload_n 0, 1) := by decide +kernel
theorem dX2_kindToSend_45 : decode cX2_kindToSend 45 = .ok (.aload_n 1, 1) := by decide +kernel
theorem dX2_kindToSend_46 : decode cX2_kindToSend 46 = .ok (.getfield 81, 3) := by decide +kernel
theorem dX2_kindToSend_49 : decode cX2_kindToSend 49 = .ok (.getfield 123, 3) := by decide +kernel
theorem dX2_kindToSend_52 : decode cX2_kindToSend 52 = .ok (.iconst 0, 1) := by decide +kernel
theorem dX2_kindToSend_53 : decode cX2_kindToSend 53 = .ok (.iaload, 1) := by decide +kernel
theorem dX2_kindToSend_54 : decode cX2_kindToSend 54 = .ok (.invokevirtual 126, 3) := by decide +kernel
theorem dX2_kindToSend_57 : decode cX2_kindToSend 57 = .ok (.ifCond .eq 7, 3) := by decide +kernel
theorem dX2_kindToSend_60 : decode cX2_kindToSend 60 = .ok (.iconst 1, 1) := by decide +kernel
theorem dX2_kindToSend_61 : decode cX2_kindToSend 61 = .ok (.goto 4, 3) := by decide +kernel
theorem dX2_kindToSend_64 : decode cX2_kindToSend 64 = .ok (.iconst 3, 1) := by decide +kernel
theorem dX2_kindToSend_65 : decode cX2_kindToSend 65 = .ok (.ireturn, 1) := by decide +kernel
theorem dX2_passSlots_0 : decode cX2_passSlots 0 = .ok (.iconst 0, 1) := by decide +kernel
theorem dX2_passSlots_1 : decode cX2_passSlots 1 = .ok (.istore_n 2, 1) := by decide +kernel
theorem dX2_passSlots_2 : decode cX2_passSlots 2 = .ok (.iload_n 2, 1) := by decide +kernel
theorem dX2_passSlots_3 : decode cX2_passSlots 3 = .ok (.iload_n 1, 1) := by decide +kernel
theorem dX2_passSlots_4 : decode cX2_passSlots 4 = .ok (.if_icmp .ge 53, 3) := by decide +kernel
theorem dX2_passSlots_7 : decode cX2_passSlots 7 = .ok (.aload_n 0, 1) := by decide +kernel
theorem dX2_passSlots_8 : decode cX2_passSlots 8 = .ok (.invokevirtual 130, 3) := by decide +kernel
theorem dX2_passSlots_11 : decode cX2_passSlots 11 = .ok (.istore_n 3, 1) := by decide +kernel
theorem dX2_passSlots_12 : decode cX2_passSlots 12 = .ok (.aload_n 0, 1) := by decide +kernel
theorem dX2_passSlots_13 : decode cX2_passSlots 13 = .ok (.dup, 1) := by decide +kernel
theorem dX2_passSlots_14 : decode cX2_passSlots 14 = .ok (.getfield 41, 3) := by decide +kernel
theorem dX2_passSlots_17 : decode cX2_passSlots 17 = .ok (.iconst 1, 1) := by decide +kernel
theorem dX2_passSlots_18 : decode cX2_passSlots 18 = .ok (.iadd, 1) := by decide +kernel
theorem dX2_passSlots_19 : decode cX2_passSlots 19 = .ok (.putfield 41, 3) := by decide +kernel
theorem dX2_passSlots_22 : decode cX2_passSlots 22 = .ok (.aload_n 0, 1) := by decide +kernel
theorem dX2_passSlots_23 : decode cX2_passSlots 23 = .ok (.iload_n 3, 1) := by decide +kernel
theorem dX2_passSlots_24 : decode cX2_passSlots 24 = .ok (.putfield 44, 3) := by decide +kernel
theorem dX2_passSlots_27 : decode cX2_passSlots 27 = .ok (.iconst 0, 1) := by decide +kernel
theorem dX2_passSlots_28 : decode cX2_passSlots 28 = .ok (.istore 4, 2) := by decide +kernel
theorem dX2_passSlots_30 : decode cX2_passSlots 30 = .ok (.iload 4, 2) := by decide +kernel
theorem dX2_passSlots_32 : decode cX2_passSlots 32 = .ok (.aload_n 0, 1) := by decide +kernel
theorem dX2_passSlots_33 : decode cX2_passSlots 33 = .ok (.getfield 22, 3) := by decide +kernel
theorem dX2_passSlots_36 : decode cX2_passSlots 36 = .ok (.if_icmp .ge 15, 3) := by decide +kernel
theorem dX2_passSlots_39 : decode cX2_passSlots 39 = .ok (.aload_n 0, 1) := by decide +kernel
theorem dX2_passSlots_40 : decode cX2_passSlots 40 = .ok (.iload 4, 2) := by decide +kernel
theorem dX2_passSlots_42 : decode cX2_passSlots 42 = .ok (.invokevirtual 134, 3) := by decide +kernel
theorem dX2_passSlots_45 : decode cX2_passSlots 45 = .ok (.iinc 4 1, 3) := by decide +kernel
theorem dX2_passSlots_48 : decode cX2_passSlots 48 = .ok (.goto (-18), 3) := by decide +kernel
theorem dX2_passSlots_51 : decode cX2_passSlots 51 = .ok (.iinc 2 1, 3) := by decide +kernel
theorem dX2_passSlots_54 : decode cX2_passSlots 54 = .ok (.goto (-52), 3) := by decide +kernel
theorem dX2_passSlots_57 : decode cX2_passSlots 57 = .ok (.return_, 1) := by decide +kernel
theorem dX2_sendAll_0 : decode cX2_sendAll 0 = .ok (.iconst 0, 1) := by decide +kernel
theorem dX2_sendAll_1 : decode cX2_sendAll 1 = .ok (.istore_n 1, 1) := by decide +kernel
theorem dX2_sendAll_2 : decode cX2_sendAll 2 = .ok (.iconst 0, 1) := by decide +kernel
theorem dX2_sendAll_3 : decode cX2_sendAll 3 = .ok (.istore_n 2, 1) := by decide +kernel
theorem dX2_sendAll_4 : decode cX2_sendAll 4 = .ok (.iload_n 2, 1) := by decide +kernel
theorem dX2_sendAll_5 : decode cX2_sendAll 5 = .ok (.aload_n 0, 1) := by decide +kernel
theorem dX2_sendAll_6 : decode cX2_sendAll 6 = .ok (.getfield 22, 3) := by decide +kernel
theorem dX2_sendAll_9 : decode cX2_sendAll 9 = .ok (.if_icmp .ge 82, 3) := by decide +kernel
theorem dX2_sendAll_12 : decode cX2_sendAll 12 = .ok (.aload_n 0, 1) := by decide +kernel
theorem dX2_sendAll_13 : decode cX2_sendAll 13 = .ok (.getfield 17, 3) := by decide +kernel
theorem dX2_sendAll_16 : decode cX2_sendAll 16 = .ok (.iload_n 2, 1) := by decide +kernel
theorem dX2_sendAll_17 : decode cX2_sendAll 17 = .ok (.aaload, 1) := by decide +kernel
theorem dX2_sendAll_18 : decode cX2_sendAll 18 = .ok (.astore_n 3, 1) := by decide +kernel
theorem dX2_sendAll_19 : decode cX2_sendAll 19 = .ok (.aload_n 0, 1) := by decide +kernel
theorem dX2_sendAll_20 : decode cX2_sendAll 20 = .ok (.aload_n 3, 1) := by decide +kernel
theorem dX2_sendAll_21 : decode cX2_sendAll 21 = .ok (.invokevirtual 137, 3) := by decide +kernel
theorem dX2_sendAll_24 : decode cX2_sendAll 24 = .ok (.istore 4, 2) := by decide +kernel
theorem dX2_sendAll_26 : decode cX2_sendAll 26 = .ok (.iload 4, 2) := by decide +kernel
theorem dX2_sendAll_28 : decode cX2_sendAll 28 = .ok (.ifCond .ne 22, 3) := by decide +kernel
theorem dX2_sendAll_31 : decode cX2_sendAll 31 = .ok (.aload_n 3, 1) := by decide +kernel
theorem dX2_sendAll_32 : decode cX2_sendAll 32 = .ok (.getfield 90, 3) := by decide +kernel
theorem dX2_sendAll_35 : decode cX2_sendAll 35 = .ok (.ifCond .le 15, 3) := by decide +kernel
theorem dX2_sendAll_38 : decode cX2_sendAll 38 = .ok (.aload_n 0, 1) := by decide +kernel
theorem dX2_sendAll_39 : decode cX2_sendAll 39 = .ok (.aload_n 3, 1) := by decide +kernel
theorem dX2_sendAll_40 : decode cX2_sendAll 40 = .ok (.invokevirtual 119, 3) := by decide +kernel
theorem dX2_sendAll_43 : decode cX2_sendAll 43 = .ok (.ifCond .eq 7, 3) := by decide +kernel
theorem dX2_sendAll_46 : decode cX2_sendAll 46 = .ok (.iconst 1, 1) := by decide +kernel
theorem dX2_sendAll_47 : decode cX2_sendAll 47 = .ok (.goto 4, 3) := by decide +kernel
theorem dX2_sendAll_50 : decode cX2_sendAll 50 = .ok (.iconst 0, 1) := by decide +kernel
theorem dX2_sendAll_51 : decode cX2_sendAll 51 = .ok (.istore 5, 2) := by decide +kernel
theorem dX2_sendAll_53 : decode cX2_sendAll 53 = .ok (.aload_n 3, 1) := by decide +kernel
theorem dX2_sendAll_54 : decode cX2_sendAll 54 = .ok (.iload 4, 2) := by decide +kernel
theorem dX2_sendAll_56 : decode cX2_sendAll 56 = .ok (.invokevirtual 141, 3) := by decide +kernel
theorem dX2_sendAll_59 : decode cX2_sendAll 59 = .ok (.iload 5, 2) := by decide +kernel
theorem dX2_sendAll_61 : decode cX2_sendAll 61 = .ok (.ifCond .eq 13, 3) := by decide +kernel
theorem dX2_sendAll_64 : decode cX2_sendAll 64 = .ok (.aload_n 3, 1) := by decide +kernel
theorem dX2_sendAll_65 : decode cX2_sendAll 65 = .ok (.dup, 1) := by decide +kernel
theorem dX2_sendAll_66 : decode cX2_sendAll 66 = .ok (.getfield 90, 3) := by decide +kernel
theorem dX2_sendAll_69 : decode cX2_sendAll 69 = .ok (.iconst 1, 1) := by decide +kernel
theorem dX2_sendAll_70 : decode cX2_sendAll 70 = .ok (.isub, 1) := by decide +kernel
theorem dX2_sendAll_71 : decode cX2_sendAll 71 = .ok (.putfield 90, 3) := by decide +kernel
theorem dX2_sendAll_74 : decode cX2_sendAll 74 = .ok (.iload 4, 2) := by decide +kernel
theorem dX2_sendAll_76 : decode cX2_sendAll 76 = .ok (.ifCond .eq 9, 3) := by decide +kernel
theorem dX2_sendAll_79 : decode cX2_sendAll 79 = .ok (.iload_n 1, 1) := by decide +kernel
theorem dX2_sendAll_80 : decode cX2_sendAll 80 = .ok (.iconst 1, 1) := by decide +kernel
theorem dX2_sendAll_81 : decode cX2_sendAll 81 = .ok (.iload_n 2, 1) := by decide +kernel
theorem dX2_sendAll_82 : decode cX2_sendAll 82 = .ok (.ishl, 1) := by decide +kernel
theorem dX2_sendAll_83 : decode cX2_sendAll 83 = .ok (.ior, 1) := by decide +kernel
theorem dX2_sendAll_84 : decode cX2_sendAll 84 = .ok (.istore_n 1, 1) := by decide +kernel
theorem dX2_sendAll_85 : decode cX2_sendAll 85 = .ok (.iinc 2 1, 3) := by decide +kernel
theorem dX2_sendAll_88 : decode cX2_sendAll 88 = .ok (.goto (-84), 3) := by decide +kernel
theorem dX2_sendAll_91 : decode cX2_sendAll 91 = .ok (.iload_n 1, 1) := by decide +kernel
theorem dX2_sendAll_92 : decode cX2_sendAll 92 = .ok (.ireturn, 1) := by decide +kernel
theorem dX2_listen_0 : decode cX2_listen 0 = .ok (.aload_n 0, 1) := by decide +kernel
theorem dX2_listen_1 : decode cX2_listen 1 = .ok (.getfield 17, 3) := by decide +kernel
theorem dX2_listen_4 : decode cX2_listen 4 = .ok (.iload_n 1, 1) := by decide +kernel
theorem dX2_listen_5 : decode cX2_listen 5 = .ok (.aaload, 1) := by decide +kernel
theorem dX2_listen_6 : decode cX2_listen 6 = .ok (.astore_n 2, 1) := by decide +kernel
theorem dX2_listen_7 : decode cX2_listen 7 = .ok (.aload_n 2, 1) := by decide +kernel
theorem dX2_listen_8 : decode cX2_listen 8 = .ok (.getfield 144, 3) := by decide +kernel
theorem dX2_listen_11 : decode cX2_listen 11 = .ok (.getfield 110, 3) := by decide +kernel
theorem dX2_listen_14 : decode cX2_listen 14 = .ok (.ifCond .eq 8, 3) := by decide +kernel
theorem dX2_listen_17 : decode cX2_listen 17 = .ok (.aload_n 2, 1) := by decide +kernel
theorem dX2_listen_18 : decode cX2_listen 18 = .ok (.invokevirtual 147, 3) := by decide +kernel
theorem dX2_listen_21 : decode cX2_listen 21 = .ok (.return_, 1) := by decide +kernel
theorem dX2_listen_22 : decode cX2_listen 22 = .ok (.aload_n 0, 1) := by decide +kernel
theorem dX2_listen_23 : decode cX2_listen 23 = .ok (.getfield 44, 3) := by decide +kernel
theorem dX2_listen_26 : decode cX2_listen 26 = .ok (.aload_n 2, 1) := by decide +kernel
theorem dX2_listen_27 : decode cX2_listen 27 = .ok (.getfield 60, 3) := by decide +kernel
theorem dX2_listen_30 : decode cX2_listen 30 = .ok (.iand, 1) := by decide +kernel
theorem dX2_listen_31 : decode cX2_listen 31 = .ok (.istore_n 3, 1) := by decide +kernel
theorem dX2_listen_32 : decode cX2_listen 32 = .ok (.iconst 0, 1) := by decide +kernel
theorem dX2_listen_33 : decode cX2_listen 33 = .ok (.istore 4, 2) := by decide +kernel
theorem dX2_listen_35 : decode cX2_listen 35 = .ok (.iload_n 3, 1) := by decide +kernel
theorem dX2_listen_36 : decode cX2_listen 36 = .ok (.invokestatic 150, 3) := by decide +kernel
theorem dX2_listen_39 : decode cX2_listen 39 = .ok (.iconst 1, 1) := by decide +kernel
theorem dX2_listen_40 : decode cX2_listen 40 = .ok (.if_icmp .le 16, 3) := by decide +kernel
theorem dX2_listen_43 : decode cX2_listen 43 = .ok (.aload_n 2, 1) := by decide +kernel
theorem dX2_listen_44 : decode cX2_listen 44 = .ok (.dup, 1) := by decide +kernel
theorem dX2_listen_45 : decode cX2_listen 45 = .ok (.getfield 155, 3) := by decide +kernel
theorem dX2_listen_48 : decode cX2_listen 48 = .ok (.iconst 1, 1) := by decide +kernel
theorem dX2_listen_49 : decode cX2_listen 49 = .ok (.iadd, 1) := by decide +kernel
theorem dX2_listen_50 : decode cX2_listen 50 = .ok (.putfield 155, 3) := by decide +kernel
theorem dX2_listen_53 : decode cX2_listen 53 = .ok (.goto 19, 3) := by decide +kernel
theorem dX2_listen_56 : decode cX2_listen 56 = .ok (.iload_n 3, 1) := by decide +kernel
theorem dX2_listen_57 : decode cX2_listen 57 = .ok (.ifCond .eq 15, 3) := by decide +kernel
theorem dX2_listen_60 : decode cX2_listen 60 = .ok (.aload_n 0, 1) := by decide +kernel
theorem dX2_listen_61 : decode cX2_listen 61 = .ok (.iload_n 1, 1) := by decide +kernel
theorem dX2_listen_62 : decode cX2_listen 62 = .ok (.aload_n 0, 1) := by decide +kernel
theorem dX2_listen_63 : decode cX2_listen 63 = .ok (.iload_n 3, 1) := by decide +kernel
theorem dX2_listen_64 : decode cX2_listen 64 = .ok (.invokevirtual 158, 3) := by decide +kernel
theorem dX2_listen_67 : decode cX2_listen 67 = .ok (.invokevirtual 161, 3) := by decide +kernel
theorem dX2_listen_70 : decode cX2_listen 70 = .ok (.istore 4, 2) := by decide +kernel
theorem dX2_listen_72 : decode cX2_listen 72 = .ok (.iload 4, 2) := by decide +kernel
theorem dX2_listen_74 : decode cX2_listen 74 = .ok (.ifCond .eq 24, 3) := by decide +kernel
theorem dX2_listen_77 : decode cX2_listen 77 = .ok (.aload_n 0, 1) := by decide +kernel
theorem dX2_listen_78 : decode cX2_listen 78 = .ok (.aload_n 2, 1) := by decide +kernel
theorem dX2_listen_79 : decode cX2_listen 79 = .ok (.invokevirtual 164, 3) := by decide +kernel
theorem dX2_listen_82 : decode cX2_listen 82 = .ok (.aload_n 2, 1) := by decide +kernel
theorem dX2_listen_83 : decode cX2_listen 83 = .ok (.aload_n 0, 1) := by decide +kernel
theorem dX2_listen_84 : decode cX2_listen 84 = .ok (.getfield 26, 3) := by decide +kernel
theorem dX2_listen_87 : decode cX2_listen 87 = .ok (.invokevirtual 167, 3) := by decide +kernel
theorem dX2_listen_90 : decode cX2_listen 90 = .ok (.aload_n 0, 1) := by decide +kernel
theorem dX2_listen_91 : decode cX2_listen 91 = .ok (.iload_n 1, 1) := by decide +kernel
theorem dX2_listen_92 : decode cX2_listen 92 = .ok (.invokevirtual 77, 3) := by decide +kernel
theorem dX2_listen_95 : decode cX2_listen 95 = .ok (.goto 31, 3) := by decide +kernel
theorem dX2_listen_98 : decode cX2_listen 98 = .ok (.aload_n 2, 1) := by decide +kernel
theorem dX2_listen_99 : decode cX2_listen 99 = .ok (.getfield 103, 3) := by decide +kernel
theorem dX2_listen_102 : decode cX2_listen 102 = .ok (.ifCond .eq 24, 3) := by decide +kernel
theorem dX2_listen_105 : decode cX2_listen 105 = .ok (.aload_n 2, 1) := by decide +kernel
theorem dX2_listen_106 : decode cX2_listen 106 = .ok (.aload_n 0, 1) := by decide +kernel
theorem dX2_listen_107 : decode cX2_listen 107 = .ok (.getfield 26, 3) := by decide +kernel
theorem dX2_listen_110 : decode cX2_listen 110 = .ok (.aload_n 0, 1) := by decide +kernel
theorem dX2_listen_111 : decode cX2_listen 111 = .ok (.getfield 29, 3) := by decide +kernel
theorem dX2_listen_114 : decode cX2_listen 114 = .ok (.aload_n 0, 1) := by decide +kernel
theorem dX2_listen_115 : decode cX2_listen 115 = .ok (.getfield 35, 3) := by decide +kernel
theorem dX2_listen_118 : decode cX2_listen 118 = .ok (.invokevirtual 170, 3) := by decide +kernel
theorem dX2_listen_121 : decode cX2_listen 121 = .ok (.aload_n 0, 1) := by decide +kernel
theorem dX2_listen_122 : decode cX2_listen 122 = .ok (.iload_n 1, 1) := by decide +kernel
theorem dX2_listen_123 : decode cX2_listen 123 = .ok (.invokevirtual 77, 3) := by decide +kernel
theorem dX2_listen_126 : decode cX2_listen 126 = .ok (.return_, 1) := by decide +kernel
theorem dX2_lowestOf_0 : decode cX2_lowestOf 0 = .ok (.iconst 0, 1) := by decide +kernel
theorem dX2_lowestOf_1 : decode cX2_lowestOf 1 = .ok (.istore_n 2, 1) := by decide +kernel
theorem dX2_lowestOf_2 : decode cX2_lowestOf 2 = .ok (.iload_n 2, 1) := by decide +kernel
theorem dX2_lowestOf_3 : decode cX2_lowestOf 3 = .ok (.iconst 5, 1) := by decide +kernel
theorem dX2_lowestOf_4 : decode cX2_lowestOf 4 = .ok (.if_icmp .ge 17, 3) := by decide +kernel
theorem dX2_lowestOf_7 : decode cX2_lowestOf 7 = .ok (.iload_n 1, 1) := by decide +kernel
theorem dX2_lowestOf_8 : decode cX2_lowestOf 8 = .ok (.iload_n 2, 1) := by decide +kernel
theorem dX2_lowestOf_9 : decode cX2_lowestOf 9 = .ok (.ishr, 1) := by decide +kernel
theorem dX2_lowestOf_10 : decode cX2_lowestOf 10 = .ok (.iconst 1, 1) := by decide +kernel
theorem dX2_lowestOf_11 : decode cX2_lowestOf 11 = .ok (.iand, 1) := by decide +kernel
theorem dX2_lowestOf_12 : decode cX2_lowestOf 12 = .ok (.ifCond .ne 9, 3) := by decide +kernel
theorem dX2_lowestOf_15 : decode cX2_lowestOf 15 = .ok (.iinc 2 1, 3) := by decide +kernel
theorem dX2_lowestOf_18 : decode cX2_lowestOf 18 = .ok (.goto (-16), 3) := by decide +kernel
theorem dX2_lowestOf_21 : decode cX2_lowestOf 21 = .ok (.iload_n 2, 1) := by decide +kernel
theorem dX2_lowestOf_22 : decode cX2_lowestOf 22 = .ok (.ireturn, 1) := by decide +kernel
theorem dX2_getFrom_0 : decode cX2_getFrom 0 = .ok (.aload_n 0, 1) := by decide +kernel
theorem dX2_getFrom_1 : decode cX2_getFrom 1 = .ok (.getfield 17, 3) := by decide +kernel
theorem dX2_getFrom_4 : decode cX2_getFrom 4 = .ok (.iload_n 2, 1) := by decide +kernel
theorem dX2_getFrom_5 : decode cX2_getFrom 5 = .ok (.aaload, 1) := by decide +kernel
theorem dX2_getFrom_6 : decode cX2_getFrom 6 = .ok (.getfield 144, 3) := by decide +kernel
theorem dX2_getFrom_9 : decode cX2_getFrom 9 = .ok (.astore_n 3, 1) := by decide +kernel
theorem dX2_getFrom_10 : decode cX2_getFrom 10 = .ok (.aload_n 3, 1) := by decide +kernel
theorem dX2_getFrom_11 : decode cX2_getFrom 11 = .ok (.getfield 174, 3) := by decide +kernel
theorem dX2_getFrom_14 : decode cX2_getFrom 14 = .ok (.iload_n 1, 1) := by decide +kernel
theorem dX2_getFrom_15 : decode cX2_getFrom 15 = .ok (.if_icmp .ne 19, 3) := by decide +kernel
theorem dX2_getFrom_18 : decode cX2_getFrom 18 = .ok (.aload_n 0, 1) := by decide +kernel
theorem dX2_getFrom_19 : decode cX2_getFrom 19 = .ok (.getfield 17, 3) := by decide +kernel
theorem dX2_getFrom_22 : decode cX2_getFrom 22 = .ok (.iload_n 1, 1) := by decide +kernel
theorem dX2_getFrom_23 : decode cX2_getFrom 23 = .ok (.aaload, 1) := by decide +kernel
theorem dX2_getFrom_24 : decode cX2_getFrom 24 = .ok (.aload_n 0, 1) := by decide +kernel
theorem dX2_getFrom_25 : decode cX2_getFrom 25 = .ok (.getfield 41, 3) := by decide +kernel
theorem dX2_getFrom_28 : decode cX2_getFrom 28 = .ok (.iload_n 2, 1) := by decide +kernel
theorem dX2_getFrom_29 : decode cX2_getFrom 29 = .ok (.aload_n 3, 1) := by decide +kernel
theorem dX2_getFrom_30 : decode cX2_getFrom 30 = .ok (.invokevirtual 177, 3) := by decide +kernel
theorem dX2_getFrom_33 : decode cX2_getFrom 33 = .ok (.ireturn, 1) := by decide +kernel
theorem dX2_getFrom_34 : decode cX2_getFrom 34 = .ok (.aload_n 0, 1) := by decide +kernel
theorem dX2_getFrom_35 : decode cX2_getFrom 35 = .ok (.getfield 17, 3) := by decide +kernel
theorem dX2_getFrom_38 : decode cX2_getFrom 38 = .ok (.iload_n 1, 1) := by decide +kernel
theorem dX2_getFrom_39 : decode cX2_getFrom 39 = .ok (.aaload, 1) := by decide +kernel
theorem dX2_getFrom_40 : decode cX2_getFrom 40 = .ok (.aload_n 0, 1) := by decide +kernel
theorem dX2_getFrom_41 : decode cX2_getFrom 41 = .ok (.getfield 41, 3) := by decide +kernel
theorem dX2_getFrom_44 : decode cX2_getFrom 44 = .ok (.iload_n 2, 1) := by decide +kernel
theorem dX2_getFrom_45 : decode cX2_getFrom 45 = .ok (.aload_n 3, 1) := by decide +kernel
theorem dX2_getFrom_46 : decode cX2_getFrom 46 = .ok (.invokevirtual 181, 3) := by decide +kernel
theorem dX2_getFrom_49 : decode cX2_getFrom 49 = .ok (.iconst 0, 1) := by decide +kernel
theorem dX2_getFrom_50 : decode cX2_getFrom 50 = .ok (.ireturn, 1) := by decide +kernel
theorem dX2_tallySent_0 : decode cX2_tallySent 0 = .ok (.aload_n 1, 1) := by decide +kernel
theorem dX2_tallySent_1 : decode cX2_tallySent 1 = .ok (.getfield 185, 3) := by decide +kernel
theorem dX2_tallySent_4 : decode cX2_tallySent 4 = .ok (.iconst 1, 1) := by decide +kernel
theorem dX2_tallySent_5 : decode cX2_tallySent 5 = .ok (.iadd, 1) := by decide +kernel
theorem dX2_tallySent_6 : decode cX2_tallySent 6 = .ok (.istore_n 2, 1) := by decide +kernel
theorem dX2_tallySent_7 : decode cX2_tallySent 7 = .ok (.iload_n 2, 1) := by decide +kernel
theorem dX2_tallySent_8 : decode cX2_tallySent 8 = .ok (.bipush 9, 2) := by decide +kernel
theorem dX2_tallySent_10 : decode cX2_tallySent 10 = .ok (.if_icmp .gt 13, 3) := by decide +kernel
theorem dX2_tallySent_13 : decode cX2_tallySent 13 = .ok (.aload_n 0, 1) := by decide +kernel
theorem dX2_tallySent_14 : decode cX2_tallySent 14 = .ok (.getfield 9, 3) := by decide +kernel
theorem dX2_tallySent_17 : decode cX2_tallySent 17 = .ok (.iload_n 2, 1) := by decide +kernel
theorem dX2_tallySent_18 : decode cX2_tallySent 18 = .ok (.dup2, 1) := by decide +kernel
theorem dX2_tallySent_19 : decode cX2_tallySent 19 = .ok (.iaload, 1) := by decide +kernel
theorem dX2_tallySent_20 : decode cX2_tallySent 20 = .ok (.iconst 1, 1) := by decide +kernel
theorem dX2_tallySent_21 : decode cX2_tallySent 21 = .ok (.iadd, 1) := by decide +kernel
theorem dX2_tallySent_22 : decode cX2_tallySent 22 = .ok (.iastore, 1) := by decide +kernel
theorem dX2_tallySent_23 : decode cX2_tallySent 23 = .ok (.aload_n 1, 1) := by decide +kernel
theorem dX2_tallySent_24 : decode cX2_tallySent 24 = .ok (.dup, 1) := by decide +kernel
theorem dX2_tallySent_25 : decode cX2_tallySent 25 = .ok (.getfield 188, 3) := by decide +kernel
theorem dX2_tallySent_28 : decode cX2_tallySent 28 = .ok (.iconst 1, 1) := by decide +kernel
theorem dX2_tallySent_29 : decode cX2_tallySent 29 = .ok (.iadd, 1) := by decide +kernel
theorem dX2_tallySent_30 : decode cX2_tallySent 30 = .ok (.putfield 188, 3) := by decide +kernel
theorem dX2_tallySent_33 : decode cX2_tallySent 33 = .ok (.return_, 1) := by decide +kernel
theorem dX3_init_0 : decode cX3_init 0 = .ok (.aload_n 0, 1) := by decide +kernel
theorem dX3_init_1 : decode cX3_init 1 = .ok (.invokespecial 3, 3) := by decide +kernel
theorem dX3_init_4 : decode cX3_init 4 = .ok (.aload_n 0, 1) := by decide +kernel
theorem dX3_init_5 : decode cX3_init 5 = .ok (.iconst 3, 1) := by decide +kernel
theorem dX3_init_6 : decode cX3_init 6 = .ok (.newarray .int, 2) := by decide +kernel
theorem dX3_init_8 : decode cX3_init 8 = .ok (.putfield 11, 3) := by decide +kernel
theorem dX3_init_11 : decode cX3_init 11 = .ok (.aload_n 0, 1) := by decide +kernel
theorem dX3_init_12 : decode cX3_init 12 = .ok (.aload_n 1, 1) := by decide +kernel
theorem dX3_init_13 : decode cX3_init 13 = .ok (.putfield 15, 3) := by decide +kernel
theorem dX3_init_16 : decode cX3_init 16 = .ok (.aload_n 0, 1) := by decide +kernel
theorem dX3_init_17 : decode cX3_init 17 = .ok (.aload_n 2, 1) := by decide +kernel
theorem dX3_init_18 : decode cX3_init 18 = .ok (.putfield 19, 3) := by decide +kernel
theorem dX3_init_21 : decode cX3_init 21 = .ok (.return_, 1) := by decide +kernel
theorem dX3_firstFault_0 : decode cX3_firstFault 0 = .ok (.aload_n 0, 1) := by decide +kernel
theorem dX3_firstFault_1 : decode cX3_firstFault 1 = .ok (.getfield 19, 3) := by decide +kernel
theorem dX3_firstFault_4 : decode cX3_firstFault 4 = .ok (.invokevirtual 23, 3) := by decide +kernel
theorem dX3_firstFault_7 : decode cX3_firstFault 7 = .ok (.aload_n 0, 1) := by decide +kernel
theorem dX3_firstFault_8 : decode cX3_firstFault 8 = .ok (.iload_n 1, 1) := by decide +kernel
theorem dX3_firstFault_9 : decode cX3_firstFault 9 = .ok (.sipush 200, 3) := by decide +kernel
theorem dX3_firstFault_12 : decode cX3_firstFault 12 = .ok (.invokestatic 28, 3) := by decide +kernel
theorem dX3_firstFault_15 : decode cX3_firstFault 15 = .ok (.putfield 34, 3) := by decide +kernel
theorem dX3_firstFault_18 : decode cX3_firstFault 18 = .ok (.aload_n 0, 1) := by decide +kernel
theorem dX3_firstFault_19 : decode cX3_firstFault 19 = .ok (.iconst 0, 1) := by decide +kernel
theorem dX3_firstFault_20 : decode cX3_firstFault 20 = .ok (.putfield 38, 3) := by decide +kernel
theorem dX3_firstFault_23 : decode cX3_firstFault 23 = .ok (.iconst 0, 1) := by decide +kernel
theorem dX3_firstFault_24 : decode cX3_firstFault 24 = .ok (.istore_n 2, 1) := by decide +kernel
theorem dX3_firstFault_25 : decode cX3_firstFault 25 = .ok (.iload_n 2, 1) := by decide +kernel
theorem dX3_firstFault_26 : decode cX3_firstFault 26 = .ok (.sipush 200, 3) := by decide +kernel
theorem dX3_firstFault_29 : decode cX3_firstFault 29 = .ok (.if_icmp .ge 34, 3) := by decide +kernel
theorem dX3_firstFault_32 : decode cX3_firstFault 32 = .ok (.aload_n 0, 1) := by decide +kernel
theorem dX3_firstFault_33 : decode cX3_firstFault 33 = .ok (.getfield 38, 3) := by decide +kernel
theorem dX3_firstFault_36 : decode cX3_firstFault 36 = .ok (.aload_n 0, 1) := by decide +kernel
theorem dX3_firstFault_37 : decode cX3_firstFault 37 = .ok (.getfield 34, 3) := by decide +kernel
theorem dX3_firstFault_40 : decode cX3_firstFault 40 = .ok (.if_icmp .ge 23, 3) := by decide +kernel
theorem dX3_firstFault_43 : decode cX3_firstFault 43 = .ok (.aload_n 0, 1) := by decide +kernel
theorem dX3_firstFault_44 : decode cX3_firstFault 44 = .ok (.getfield 38, 3) := by decide +kernel
theorem dX3_firstFault_47 : decode cX3_firstFault 47 = .ok (.istore_n 3, 1) := by decide +kernel
theorem dX3_firstFault_48 : decode cX3_firstFault 48 = .ok (.aload_n 0, 1) := by decide +kernel
theorem dX3_firstFault_49 : decode cX3_firstFault 49 = .ok (.invokevirtual 41, 3) := by decide +kernel
theorem dX3_firstFault_52 : decode cX3_firstFault 52 = .ok (.ifCond .ne 5, 3) := by decide +kernel
theorem dX3_firstFault_55 : decode cX3_firstFault 55 = .ok (.iload_n 3, 1) := by decide +kernel
theorem dX3_firstFault_56 : decode cX3_firstFault 56 = .ok (.ireturn, 1) := by decide +kernel
theorem dX3_firstFault_57 : decode cX3_firstFault 57 = .ok (.iinc 2 1, 3) := by decide +kernel
theorem dX3_firstFault_60 : decode cX3_firstFault 60 = .ok (.goto (-35), 3) := by decide +kernel
theorem dX3_firstFault_63 : decode cX3_firstFault 63 = .ok (.bipush (-4), 2) := by decide +kernel
theorem dX3_firstFault_65 : decode cX3_firstFault 65 = .ok (.ireturn, 1) := by decide +kernel
theorem dX3_readItem_0 : decode cX3_readItem 0 = .ok (.aload_n 0, 1) := by decide +kernel
theorem dX3_readItem_1 : decode cX3_readItem 1 = .ok (.getfield 15, 3) := by decide +kernel
theorem dX3_readItem_4 : decode cX3_readItem 4 = .ok (.aload_n 0, 1) := by decide +kernel
theorem dX3_readItem_5 : decode cX3_readItem 5 = .ok (.getfield 38, 3) := by decide +kernel
theorem dX3_readItem_8 : decode cX3_readItem 8 = .ok (.caload, 1) := by decide +kernel
theorem dX3_readItem_9 : decode cX3_readItem 9 = .ok (.istore_n 1, 1) := by decide +kernel
theorem dX3_readItem_10 : decode cX3_readItem 10 = .ok (.aload_n 0, 1) := by decide +kernel
theorem dX3_readItem_11 : decode cX3_readItem 11 = .ok (.dup, 1) := by decide +kernel
theorem dX3_readItem_12 : decode cX3_readItem 12 = .ok (.getfield 38, 3) := by decide +kernel
theorem dX3_readItem_15 : decode cX3_readItem 15 = .ok (.iconst 1, 1) := by decide +kernel
theorem dX3_readItem_16 : decode cX3_readItem 16 = .ok (.iadd, 1) := by decide +kernel
theorem dX3_readItem_17 : decode cX3_readItem 17 = .ok (.putfield 38, 3) := by decide +kernel
theorem dX3_readItem_20 : decode cX3_readItem 20 = .ok (.aload_n 0, 1) := by decide +kernel
theorem dX3_readItem_21 : decode cX3_readItem 21 = .ok (.iload_n 1, 1) := by decide +kernel
theorem dX3_readItem_22 : decode cX3_readItem 22 = .ok (.invokevirtual 45, 3) := by decide +kernel
theorem dX3_readItem_25 : decode cX3_readItem 25 = .ok (.istore_n 2, 1) := by decide +kernel
theorem dX3_readItem_26 : decode cX3_readItem 26 = .ok (.iload_n 2, 1) := by decide +kernel
theorem dX3_readItem_27 : decode cX3_readItem 27 = .ok (.ifCond .eq 11, 3) := by decide +kernel
theorem dX3_readItem_30 : decode cX3_readItem 30 = .ok (.aload_n 0, 1) := by decide +kernel
theorem dX3_readItem_31 : decode cX3_readItem 31 = .ok (.iload_n 2, 1) := by decide +kernel
theorem dX3_readItem_32 : decode cX3_readItem 32 = .ok (.invokevirtual 49, 3) := by decide +kernel
theorem dX3_readItem_35 : decode cX3_readItem 35 = .ok (.ifCond .ne 5, 3) := by decide +kernel
theorem dX3_readItem_38 : decode cX3_readItem 38 = .ok (.iconst 0, 1) := by decide +kernel
theorem dX3_readItem_39 : decode cX3_readItem 39 = .ok (.ireturn, 1) := by decide +kernel
theorem dX3_readItem_40 : decode cX3_readItem 40 = .ok (.iload_n 1, 1) := by decide +kernel
theorem dX3_readItem_41 : decode cX3_readItem 41 = .ok (.bipush 110, 2) := by decide +kernel
theorem dX3_readItem_43 : decode cX3_readItem 43 = .ok (.if_icmp .ne 14, 3) := by decide +kernel
theorem dX3_readItem_46 : decode cX3_readItem 46 = .ok (.aload_n 0, 1) := by decide +kernel
theorem dX3_readItem_47 : decode cX3_readItem 47 = .ok (.aload_n 0, 1) := by decide +kernel
theorem dX3_readItem_48 : decode cX3_readItem 48 = .ok (.getfield 11, 3) := by decide +kernel
theorem dX3_readItem_51 : decode cX3_readItem 51 = .ok (.iconst 0, 1) := by decide +kernel
theorem dX3_readItem_52 : decode cX3_readItem 52 = .ok (.iaload, 1) := by decide +kernel
theorem dX3_readItem_53 : decode cX3_readItem 53 = .ok (.invokevirtual 53, 3) := by decide +kernel
theorem dX3_readItem_56 : decode cX3_readItem 56 = .ok (.ireturn, 1) := by decide +kernel
