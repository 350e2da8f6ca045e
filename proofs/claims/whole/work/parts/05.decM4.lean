theorem d_M_countUntil_21 : decode b_M_countUntil 21 = .ok (.ifCond .gt 9, 3) := by decide +kernel
theorem d_M_countUntil_24 : decode b_M_countUntil 24 = .ok (.iinc 3 1, 3) := by decide +kernel
theorem d_M_countUntil_27 : decode b_M_countUntil 27 = .ok (.goto (-21), 3) := by decide +kernel
theorem d_M_countUntil_30 : decode b_M_countUntil 30 = .ok (.iload_n 3, 1) := by decide +kernel
theorem d_M_countUntil_31 : decode b_M_countUntil 31 = .ok (.ireturn, 1) := by decide +kernel
theorem d_M_until_0 : decode b_M_until 0 = .ok (.aload_n 0, 1) := by decide +kernel
theorem d_M_until_1 : decode b_M_until 1 = .ok (.lload_n 1, 1) := by decide +kernel
theorem d_M_until_2 : decode b_M_until 2 = .ok (.lconst 0, 1) := by decide +kernel
theorem d_M_until_3 : decode b_M_until 3 = .ok (.lcmp, 1) := by decide +kernel
theorem d_M_until_4 : decode b_M_until 4 = .ok (.ifCond .lt 7, 3) := by decide +kernel
theorem d_M_until_7 : decode b_M_until 7 = .ok (.iconst 0, 1) := by decide +kernel
theorem d_M_until_8 : decode b_M_until 8 = .ok (.goto 4, 3) := by decide +kernel
theorem d_M_until_11 : decode b_M_until 11 = .ok (.iconst 1, 1) := by decide +kernel
theorem d_M_until_12 : decode b_M_until 12 = .ok (.putfield 41, 3) := by decide +kernel
theorem d_M_until_15 : decode b_M_until 15 = .ok (.aload_n 0, 1) := by decide +kernel
theorem d_M_until_16 : decode b_M_until 16 = .ok (.getfield 41, 3) := by decide +kernel
theorem d_M_until_19 : decode b_M_until 19 = .ok (.ifCond .le 7, 3) := by decide +kernel
theorem d_M_until_22 : decode b_M_until 22 = .ok (.iconst 0, 1) := by decide +kernel
theorem d_M_until_23 : decode b_M_until 23 = .ok (.goto 8, 3) := by decide +kernel
theorem d_M_until_26 : decode b_M_until 26 = .ok (.aload_n 0, 1) := by decide +kernel
theorem d_M_until_27 : decode b_M_until 27 = .ok (.lload_n 1, 1) := by decide +kernel
theorem d_M_until_28 : decode b_M_until 28 = .ok (.invokevirtual 127, 3) := by decide +kernel
theorem d_M_until_31 : decode b_M_until 31 = .ok (.ireturn, 1) := by decide +kernel
theorem d_M_loudness_0 : decode b_M_loudness 0 = .ok (.aload_n 0, 1) := by decide +kernel
theorem d_M_loudness_1 : decode b_M_loudness 1 = .ok (.aload_n 0, 1) := by decide +kernel
theorem d_M_loudness_2 : decode b_M_loudness 2 = .ok (.getfield 32, 3) := by decide +kernel
theorem d_M_loudness_5 : decode b_M_loudness 5 = .ok (.iload_n 1, 1) := by decide +kernel
theorem d_M_loudness_6 : decode b_M_loudness 6 = .ok (.iaload, 1) := by decide +kernel
theorem d_M_loudness_7 : decode b_M_loudness 7 = .ok (.aload_n 0, 1) := by decide +kernel
theorem d_M_loudness_8 : decode b_M_loudness 8 = .ok (.getfield 35, 3) := by decide +kernel
theorem d_M_loudness_11 : decode b_M_loudness 11 = .ok (.iload_n 1, 1) := by decide +kernel
theorem d_M_loudness_12 : decode b_M_loudness 12 = .ok (.iaload, 1) := by decide +kernel
theorem d_M_loudness_13 : decode b_M_loudness 13 = .ok (.aload_n 0, 1) := by decide +kernel
theorem d_M_loudness_14 : decode b_M_loudness 14 = .ok (.getfield 38, 3) := by decide +kernel
theorem d_M_loudness_17 : decode b_M_loudness 17 = .ok (.iload_n 1, 1) := by decide +kernel
theorem d_M_loudness_18 : decode b_M_loudness 18 = .ok (.iaload, 1) := by decide +kernel
theorem d_M_loudness_19 : decode b_M_loudness 19 = .ok (.iconst 2, 1) := by decide +kernel
theorem d_M_loudness_20 : decode b_M_loudness 20 = .ok (.invokevirtual 97, 3) := by decide +kernel
theorem d_M_loudness_23 : decode b_M_loudness 23 = .ok (.lreturn, 1) := by decide +kernel
theorem d_M_first_0 : decode b_M_first 0 = .ok (.aload_n 0, 1) := by decide +kernel
theorem d_M_first_1 : decode b_M_first 1 = .ok (.invokevirtual 124, 3) := by decide +kernel
theorem d_M_first_4 : decode b_M_first 4 = .ok (.lconst 0, 1) := by decide +kernel
theorem d_M_first_5 : decode b_M_first 5 = .ok (.lstore_n 2, 1) := by decide +kernel
theorem d_M_first_6 : decode b_M_first 6 = .ok (.iconst 0, 1) := by decide +kernel
theorem d_M_first_7 : decode b_M_first 7 = .ok (.istore 4, 2) := by decide +kernel
theorem d_M_first_9 : decode b_M_first 9 = .ok (.iload 4, 2) := by decide +kernel
theorem d_M_first_11 : decode b_M_first 11 = .ok (.iload_n 1, 1) := by decide +kernel
theorem d_M_first_12 : decode b_M_first 12 = .ok (.if_icmp .ge 18, 3) := by decide +kernel
theorem d_M_first_15 : decode b_M_first 15 = .ok (.lload_n 2, 1) := by decide +kernel
theorem d_M_first_16 : decode b_M_first 16 = .ok (.aload_n 0, 1) := by decide +kernel
theorem d_M_first_17 : decode b_M_first 17 = .ok (.iload 4, 2) := by decide +kernel
theorem d_M_first_19 : decode b_M_first 19 = .ok (.invokevirtual 131, 3) := by decide +kernel
theorem d_M_first_22 : decode b_M_first 22 = .ok (.ladd, 1) := by decide +kernel
theorem d_M_first_23 : decode b_M_first 23 = .ok (.lstore_n 2, 1) := by decide +kernel
theorem d_M_first_24 : decode b_M_first 24 = .ok (.iinc 4 1, 3) := by decide +kernel
theorem d_M_first_27 : decode b_M_first 27 = .ok (.goto (-18), 3) := by decide +kernel
theorem d_M_first_30 : decode b_M_first 30 = .ok (.lload_n 2, 1) := by decide +kernel
theorem d_M_first_31 : decode b_M_first 31 = .ok (.lreturn, 1) := by decide +kernel
theorem d_M_loud_0 : decode b_M_loud 0 = .ok (.aload_n 0, 1) := by decide +kernel
theorem d_M_loud_1 : decode b_M_loud 1 = .ok (.iload_n 1, 1) := by decide +kernel
theorem d_M_loud_2 : decode b_M_loud 2 = .ok (.i2l, 1) := by decide +kernel
theorem d_M_loud_3 : decode b_M_loud 3 = .ok (.lconst 0, 1) := by decide +kernel
theorem d_M_loud_4 : decode b_M_loud 4 = .ok (.ldc2_w 120, 3) := by decide +kernel
theorem d_M_loud_7 : decode b_M_loud 7 = .ok (.invokestatic 45, 3) := by decide +kernel
theorem d_M_loud_10 : decode b_M_loud 10 = .ok (.ifCond .eq 20, 3) := by decide +kernel
theorem d_M_loud_13 : decode b_M_loud 13 = .ok (.iload_n 2, 1) := by decide +kernel
theorem d_M_loud_14 : decode b_M_loud 14 = .ok (.i2l, 1) := by decide +kernel
theorem d_M_loud_15 : decode b_M_loud 15 = .ok (.iload_n 1, 1) := by decide +kernel
theorem d_M_loud_16 : decode b_M_loud 16 = .ok (.i2l, 1) := by decide +kernel
theorem d_M_loud_17 : decode b_M_loud 17 = .ok (.ldc2_w 120, 3) := by decide +kernel
theorem d_M_loud_20 : decode b_M_loud 20 = .ok (.invokestatic 45, 3) := by decide +kernel
theorem d_M_loud_23 : decode b_M_loud 23 = .ok (.ifCond .eq 7, 3) := by decide +kernel
theorem d_M_loud_26 : decode b_M_loud 26 = .ok (.iconst 0, 1) := by decide +kernel
theorem d_M_loud_27 : decode b_M_loud 27 = .ok (.goto 4, 3) := by decide +kernel
theorem d_M_loud_30 : decode b_M_loud 30 = .ok (.iconst 1, 1) := by decide +kernel
theorem d_M_loud_31 : decode b_M_loud 31 = .ok (.putfield 41, 3) := by decide +kernel
theorem d_M_loud_34 : decode b_M_loud 34 = .ok (.aload_n 0, 1) := by decide +kernel
theorem d_M_loud_35 : decode b_M_loud 35 = .ok (.getfield 41, 3) := by decide +kernel
theorem d_M_loud_38 : decode b_M_loud 38 = .ok (.ifCond .le 7, 3) := by decide +kernel
theorem d_M_loud_41 : decode b_M_loud 41 = .ok (.lconst 0, 1) := by decide +kernel
theorem d_M_loud_42 : decode b_M_loud 42 = .ok (.goto 16, 3) := by decide +kernel
theorem d_M_loud_45 : decode b_M_loud 45 = .ok (.aload_n 0, 1) := by decide +kernel
theorem d_M_loud_46 : decode b_M_loud 46 = .ok (.iload_n 2, 1) := by decide +kernel
theorem d_M_loud_47 : decode b_M_loud 47 = .ok (.iconst 1, 1) := by decide +kernel
theorem d_M_loud_48 : decode b_M_loud 48 = .ok (.iadd, 1) := by decide +kernel
theorem d_M_loud_49 : decode b_M_loud 49 = .ok (.invokevirtual 135, 3) := by decide +kernel
theorem d_M_loud_52 : decode b_M_loud 52 = .ok (.aload_n 0, 1) := by decide +kernel
theorem d_M_loud_53 : decode b_M_loud 53 = .ok (.iload_n 1, 1) := by decide +kernel
theorem d_M_loud_54 : decode b_M_loud 54 = .ok (.invokevirtual 135, 3) := by decide +kernel
theorem d_M_loud_57 : decode b_M_loud 57 = .ok (.lsub, 1) := by decide +kernel
theorem d_M_loud_58 : decode b_M_loud 58 = .ok (.lreturn, 1) := by decide +kernel
theorem d_M_common_0 : decode b_M_common 0 = .ok (.lload_n 0, 1) := by decide +kernel
theorem d_M_common_1 : decode b_M_common 1 = .ok (.lstore 4, 2) := by decide +kernel
theorem d_M_common_3 : decode b_M_common 3 = .ok (.lload_n 2, 1) := by decide +kernel
theorem d_M_common_4 : decode b_M_common 4 = .ok (.lstore 6, 2) := by decide +kernel
theorem d_M_common_6 : decode b_M_common 6 = .ok (.lload 6, 2) := by decide +kernel
theorem d_M_common_8 : decode b_M_common 8 = .ok (.lconst 0, 1) := by decide +kernel
theorem d_M_common_9 : decode b_M_common 9 = .ok (.lcmp, 1) := by decide +kernel
theorem d_M_common_10 : decode b_M_common 10 = .ok (.ifCond .eq 21, 3) := by decide +kernel
theorem d_M_common_13 : decode b_M_common 13 = .ok (.lload 4, 2) := by decide +kernel
theorem d_M_common_15 : decode b_M_common 15 = .ok (.lload 6, 2) := by decide +kernel
theorem d_M_common_17 : decode b_M_common 17 = .ok (.lrem, 1) := by decide +kernel
theorem d_M_common_18 : decode b_M_common 18 = .ok (.lstore 8, 2) := by decide +kernel
theorem d_M_common_20 : decode b_M_common 20 = .ok (.lload 6, 2) := by decide +kernel
theorem d_M_common_22 : decode b_M_common 22 = .ok (.lstore 4, 2) := by decide +kernel
theorem d_M_common_24 : decode b_M_common 24 = .ok (.lload 8, 2) := by decide +kernel
theorem d_M_common_26 : decode b_M_common 26 = .ok (.lstore 6, 2) := by decide +kernel
theorem d_M_common_28 : decode b_M_common 28 = .ok (.goto (-22), 3) := by decide +kernel
theorem d_M_common_31 : decode b_M_common 31 = .ok (.lload 4, 2) := by decide +kernel
theorem d_M_common_33 : decode b_M_common 33 = .ok (.lreturn, 1) := by decide +kernel
theorem d_M_early_0 : decode b_M_early 0 = .ok (.aload_n 0, 1) := by decide +kernel
theorem d_M_early_1 : decode b_M_early 1 = .ok (.lload_n 1, 1) := by decide +kernel
theorem d_M_early_2 : decode b_M_early 2 = .ok (.lconst 0, 1) := by decide +kernel
theorem d_M_early_3 : decode b_M_early 3 = .ok (.lcmp, 1) := by decide +kernel
theorem d_M_early_4 : decode b_M_early 4 = .ok (.ifCond .lt 17, 3) := by decide +kernel
theorem d_M_early_7 : decode b_M_early 7 = .ok (.iload_n 3, 1) := by decide +kernel
theorem d_M_early_8 : decode b_M_early 8 = .ok (.i2l, 1) := by decide +kernel
theorem d_M_early_9 : decode b_M_early 9 = .ok (.lconst 0, 1) := by decide +kernel
theorem d_M_early_10 : decode b_M_early 10 = .ok (.lconst 1, 1) := by decide +kernel
theorem d_M_early_11 : decode b_M_early 11 = .ok (.invokestatic 45, 3) := by decide +kernel
theorem d_M_early_14 : decode b_M_early 14 = .ok (.ifCond .eq 7, 3) := by decide +kernel
theorem d_M_early_17 : decode b_M_early 17 = .ok (.iconst 0, 1) := by decide +kernel
theorem d_M_early_18 : decode b_M_early 18 = .ok (.goto 4, 3) := by decide +kernel
theorem d_M_early_21 : decode b_M_early 21 = .ok (.iconst 1, 1) := by decide +kernel
theorem d_M_early_22 : decode b_M_early 22 = .ok (.putfield 41, 3) := by decide +kernel
theorem d_M_early_25 : decode b_M_early 25 = .ok (.aload_n 0, 1) := by decide +kernel
theorem d_M_early_26 : decode b_M_early 26 = .ok (.getfield 41, 3) := by decide +kernel
theorem d_M_early_29 : decode b_M_early 29 = .ok (.ifCond .le 5, 3) := by decide +kernel
theorem d_M_early_32 : decode b_M_early 32 = .ok (.lconst 0, 1) := by decide +kernel
theorem d_M_early_33 : decode b_M_early 33 = .ok (.lreturn, 1) := by decide +kernel
theorem d_M_early_34 : decode b_M_early 34 = .ok (.aload_n 0, 1) := by decide +kernel
theorem d_M_early_35 : decode b_M_early 35 = .ok (.sipush 500, 3) := by decide +kernel
theorem d_M_early_38 : decode b_M_early 38 = .ok (.invokevirtual 135, 3) := by decide +kernel
theorem d_M_early_41 : decode b_M_early 41 = .ok (.lstore 4, 2) := by decide +kernel
theorem d_M_early_43 : decode b_M_early 43 = .ok (.lload 4, 2) := by decide +kernel
theorem d_M_early_45 : decode b_M_early 45 = .ok (.lconst 0, 1) := by decide +kernel
theorem d_M_early_46 : decode b_M_early 46 = .ok (.lcmp, 1) := by decide +kernel
theorem d_M_early_47 : decode b_M_early 47 = .ok (.ifCond .ne 6, 3) := by decide +kernel
theorem d_M_early_50 : decode b_M_early 50 = .ok (.iload_n 3, 1) := by decide +kernel
theorem d_M_early_51 : decode b_M_early 51 = .ok (.i2l, 1) := by decide +kernel
theorem d_M_early_52 : decode b_M_early 52 = .ok (.lreturn, 1) := by decide +kernel
theorem d_M_early_53 : decode b_M_early 53 = .ok (.aload_n 0, 1) := by decide +kernel
theorem d_M_early_54 : decode b_M_early 54 = .ok (.aload_n 0, 1) := by decide +kernel
theorem d_M_early_55 : decode b_M_early 55 = .ok (.lload_n 1, 1) := by decide +kernel
theorem d_M_early_56 : decode b_M_early 56 = .ok (.invokevirtual 127, 3) := by decide +kernel
theorem d_M_early_59 : decode b_M_early 59 = .ok (.invokevirtual 135, 3) := by decide +kernel
theorem d_M_early_62 : decode b_M_early 62 = .ok (.lstore 6, 2) := by decide +kernel
theorem d_M_early_64 : decode b_M_early 64 = .ok (.lload 4, 2) := by decide +kernel
theorem d_M_early_66 : decode b_M_early 66 = .ok (.lload 6, 2) := by decide +kernel
theorem d_M_early_68 : decode b_M_early 68 = .ok (.invokestatic 138, 3) := by decide +kernel
theorem d_M_early_71 : decode b_M_early 71 = .ok (.lstore 8, 2) := by decide +kernel
theorem d_M_early_73 : decode b_M_early 73 = .ok (.iload_n 3, 1) := by decide +kernel
theorem d_M_early_74 : decode b_M_early 74 = .ok (.ifCond .ne 11, 3) := by decide +kernel
theorem d_M_early_77 : decode b_M_early 77 = .ok (.lload 6, 2) := by decide +kernel
theorem d_M_early_79 : decode b_M_early 79 = .ok (.lload 8, 2) := by decide +kernel
theorem d_M_early_81 : decode b_M_early 81 = .ok (.ldiv, 1) := by decide +kernel
theorem d_M_early_82 : decode b_M_early 82 = .ok (.goto 8, 3) := by decide +kernel
theorem d_M_early_85 : decode b_M_early 85 = .ok (.lload 4, 2) := by decide +kernel
theorem d_M_early_87 : decode b_M_early 87 = .ok (.lload 8, 2) := by decide +kernel
theorem d_M_early_89 : decode b_M_early 89 = .ok (.ldiv, 1) := by decide +kernel
theorem d_M_early_90 : decode b_M_early 90 = .ok (.lreturn, 1) := by decide +kernel
theorem d_M_enough_0 : decode b_M_enough 0 = .ok (.aload_n 0, 1) := by decide +kernel
theorem d_M_enough_1 : decode b_M_enough 1 = .ok (.iload_n 1, 1) := by decide +kernel
theorem d_M_enough_2 : decode b_M_enough 2 = .ok (.i2l, 1) := by decide +kernel
theorem d_M_enough_3 : decode b_M_enough 3 = .ok (.lconst 0, 1) := by decide +kernel
theorem d_M_enough_4 : decode b_M_enough 4 = .ok (.ldc2_w 59, 3) := by decide +kernel
theorem d_M_enough_7 : decode b_M_enough 7 = .ok (.invokestatic 45, 3) := by decide +kernel
theorem d_M_enough_10 : decode b_M_enough 10 = .ok (.ifCond .eq 7, 3) := by decide +kernel
theorem d_M_enough_13 : decode b_M_enough 13 = .ok (.iconst 0, 1) := by decide +kernel
theorem d_M_enough_14 : decode b_M_enough 14 = .ok (.goto 4, 3) := by decide +kernel
theorem d_M_enough_17 : decode b_M_enough 17 = .ok (.iconst 1, 1) := by decide +kernel
theorem d_M_enough_18 : decode b_M_enough 18 = .ok (.putfield 41, 3) := by decide +kernel
theorem d_M_enough_21 : decode b_M_enough 21 = .ok (.aload_n 0, 1) := by decide +kernel
theorem d_M_enough_22 : decode b_M_enough 22 = .ok (.getfield 41, 3) := by decide +kernel
theorem d_M_enough_25 : decode b_M_enough 25 = .ok (.ifCond .le 5, 3) := by decide +kernel
theorem d_M_enough_28 : decode b_M_enough 28 = .ok (.iconst 0, 1) := by decide +kernel
theorem d_M_enough_29 : decode b_M_enough 29 = .ok (.ireturn, 1) := by decide +kernel
theorem d_M_enough_30 : decode b_M_enough 30 = .ok (.aload_n 0, 1) := by decide +kernel
theorem d_M_enough_31 : decode b_M_enough 31 = .ok (.sipush 500, 3) := by decide +kernel
theorem d_M_enough_34 : decode b_M_enough 34 = .ok (.invokevirtual 135, 3) := by decide +kernel
theorem d_M_enough_37 : decode b_M_enough 37 = .ok (.iload_n 1, 1) := by decide +kernel
theorem d_M_enough_38 : decode b_M_enough 38 = .ok (.i2l, 1) := by decide +kernel
theorem d_M_enough_39 : decode b_M_enough 39 = .ok (.lmul, 1) := by decide +kernel
theorem d_M_enough_40 : decode b_M_enough 40 = .ok (.lstore_n 2, 1) := by decide +kernel
theorem d_M_enough_41 : decode b_M_enough 41 = .ok (.lconst 0, 1) := by decide +kernel
theorem d_M_enough_42 : decode b_M_enough 42 = .ok (.lstore 4, 2) := by decide +kernel
theorem d_M_enough_44 : decode b_M_enough 44 = .ok (.iconst (-1), 1) := by decide +kernel
theorem d_M_enough_45 : decode b_M_enough 45 = .ok (.istore 6, 2) := by decide +kernel
theorem d_M_enough_47 : decode b_M_enough 47 = .ok (.iload 6, 2) := by decide +kernel
theorem d_M_enough_49 : decode b_M_enough 49 = .ok (.ifCond .lt 14, 3) := by decide +kernel
theorem d_M_enough_52 : decode b_M_enough 52 = .ok (.lload 4, 2) := by decide +kernel
theorem d_M_enough_54 : decode b_M_enough 54 = .ok (.ldc2_w 59, 3) := by decide +kernel
theorem d_M_enough_57 : decode b_M_enough 57 = .ok (.lmul, 1) := by decide +kernel
theorem d_M_enough_58 : decode b_M_enough 58 = .ok (.lload_n 2, 1) := by decide +kernel
theorem d_M_enough_59 : decode b_M_enough 59 = .ok (.lcmp, 1) := by decide +kernel
theorem d_M_enough_60 : decode b_M_enough 60 = .ok (.ifCond .ge 20, 3) := by decide +kernel
theorem d_M_enough_63 : decode b_M_enough 63 = .ok (.iinc 6 1, 3) := by decide +kernel
theorem d_M_enough_66 : decode b_M_enough 66 = .ok (.lload 4, 2) := by decide +kernel
theorem d_M_enough_68 : decode b_M_enough 68 = .ok (.aload_n 0, 1) := by decide +kernel
theorem d_M_enough_69 : decode b_M_enough 69 = .ok (.iload 6, 2) := by decide +kernel
theorem d_M_enough_71 : decode b_M_enough 71 = .ok (.invokevirtual 131, 3) := by decide +kernel
theorem d_M_enough_74 : decode b_M_enough 74 = .ok (.ladd, 1) := by decide +kernel
theorem d_M_enough_75 : decode b_M_enough 75 = .ok (.lstore 4, 2) := by decide +kernel
theorem d_M_enough_77 : decode b_M_enough 77 = .ok (.goto (-30), 3) := by decide +kernel
theorem d_M_enough_80 : decode b_M_enough 80 = .ok (.iload 6, 2) := by decide +kernel
theorem d_M_enough_82 : decode b_M_enough 82 = .ok (.ireturn, 1) := by decide +kernel
theorem d_M_loudest_0 : decode b_M_loudest 0 = .ok (.aload_n 0, 1) := by decide +kernel
theorem d_M_loudest_1 : decode b_M_loudest 1 = .ok (.iload_n 1, 1) := by decide +kernel
theorem d_M_loudest_2 : decode b_M_loudest 2 = .ok (.i2l, 1) := by decide +kernel
theorem d_M_loudest_3 : decode b_M_loudest 3 = .ok (.ldc2_w 142, 3) := by decide +kernel
theorem d_M_loudest_6 : decode b_M_loudest 6 = .ok (.ldc2_w 120, 3) := by decide +kernel
theorem d_M_loudest_9 : decode b_M_loudest 9 = .ok (.invokestatic 45, 3) := by decide +kernel
theorem d_M_loudest_12 : decode b_M_loudest 12 = .ok (.ifCond .eq 7, 3) := by decide +kernel
theorem d_M_loudest_15 : decode b_M_loudest 15 = .ok (.iconst 0, 1) := by decide +kernel
theorem d_M_loudest_16 : decode b_M_loudest 16 = .ok (.goto 4, 3) := by decide +kernel
theorem d_M_loudest_19 : decode b_M_loudest 19 = .ok (.iconst 1, 1) := by decide +kernel
theorem d_M_loudest_20 : decode b_M_loudest 20 = .ok (.putfield 41, 3) := by decide +kernel
theorem d_M_loudest_23 : decode b_M_loudest 23 = .ok (.aload_n 0, 1) := by decide +kernel
theorem d_M_loudest_24 : decode b_M_loudest 24 = .ok (.getfield 41, 3) := by decide +kernel
theorem d_M_loudest_27 : decode b_M_loudest 27 = .ok (.ifCond .le 5, 3) := by decide +kernel
theorem d_M_loudest_30 : decode b_M_loudest 30 = .ok (.iconst 0, 1) := by decide +kernel
theorem d_M_loudest_31 : decode b_M_loudest 31 = .ok (.ireturn, 1) := by decide +kernel
theorem d_M_loudest_32 : decode b_M_loudest 32 = .ok (.aload_n 0, 1) := by decide +kernel
theorem d_M_loudest_33 : decode b_M_loudest 33 = .ok (.invokevirtual 124, 3) := by decide +kernel
theorem d_M_loudest_36 : decode b_M_loudest 36 = .ok (.iconst (-1), 1) := by decide +kernel
theorem d_M_loudest_37 : decode b_M_loudest 37 = .ok (.istore_n 2, 1) := by decide +kernel
theorem d_M_loudest_38 : decode b_M_loudest 38 = .ok (.iload_n 1, 1) := by decide +kernel
theorem d_M_loudest_39 : decode b_M_loudest 39 = .ok (.iconst 1, 1) := by decide +kernel
theorem d_M_loudest_40 : decode b_M_loudest 40 = .ok (.iadd, 1) := by decide +kernel
theorem d_M_loudest_41 : decode b_M_loudest 41 = .ok (.istore_n 3, 1) := by decide +kernel
theorem d_M_loudest_42 : decode b_M_loudest 42 = .ok (.iload_n 3, 1) := by decide +kernel
theorem d_M_loudest_43 : decode b_M_loudest 43 = .ok (.sipush 500, 3) := by decide +kernel
theorem d_M_loudest_46 : decode b_M_loudest 46 = .ok (.if_icmp .ge 33, 3) := by decide +kernel
theorem d_M_loudest_49 : decode b_M_loudest 49 = .ok (.iload_n 2, 1) := by decide +kernel
theorem d_M_loudest_50 : decode b_M_loudest 50 = .ok (.ifCond .lt 17, 3) := by decide +kernel
theorem d_M_loudest_53 : decode b_M_loudest 53 = .ok (.aload_n 0, 1) := by decide +kernel
theorem d_M_loudest_54 : decode b_M_loudest 54 = .ok (.iload_n 3, 1) := by decide +kernel
theorem d_M_loudest_55 : decode b_M_loudest 55 = .ok (.invokevirtual 131, 3) := by decide +kernel
theorem d_M_loudest_58 : decode b_M_loudest 58 = .ok (.aload_n 0, 1) := by decide +kernel
theorem d_M_loudest_59 : decode b_M_loudest 59 = .ok (.iload_n 2, 1) := by decide +kernel
theorem d_M_loudest_60 : decode b_M_loudest 60 = .ok (.invokevirtual 131, 3) := by decide +kernel
theorem d_M_loudest_63 : decode b_M_loudest 63 = .ok (.lcmp, 1) := by decide +kernel
theorem d_M_loudest_64 : decode b_M_loudest 64 = .ok (.ifCond .le 7, 3) := by decide +kernel
theorem d_M_loudest_67 : decode b_M_loudest 67 = .ok (.iload_n 3, 1) := by decide +kernel
theorem d_M_loudest_68 : decode b_M_loudest 68 = .ok (.goto 4, 3) := by decide +kernel
theorem d_M_loudest_71 : decode b_M_loudest 71 = .ok (.iload_n 2, 1) := by decide +kernel
theorem d_M_loudest_72 : decode b_M_loudest 72 = .ok (.istore_n 2, 1) := by decide +kernel
theorem d_M_loudest_73 : decode b_M_loudest 73 = .ok (.iinc 3 1, 3) := by decide +kernel
theorem d_M_loudest_76 : decode b_M_loudest 76 = .ok (.goto (-34), 3) := by decide +kernel
theorem d_M_loudest_79 : decode b_M_loudest 79 = .ok (.iload_n 2, 1) := by decide +kernel
theorem d_M_loudest_80 : decode b_M_loudest 80 = .ok (.ireturn, 1) := by decide +kernel
