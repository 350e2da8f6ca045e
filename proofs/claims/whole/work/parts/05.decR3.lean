theorem d_R_orderEchoes_44 : decode b_R_orderEchoes 44 = .ok (.istore_n 1, 1) := by decide +kernel
theorem d_R_orderEchoes_45 : decode b_R_orderEchoes 45 = .ok (.iload_n 1, 1) := by decide +kernel
theorem d_R_orderEchoes_46 : decode b_R_orderEchoes 46 = .ok (.sipush 500, 3) := by decide +kernel
theorem d_R_orderEchoes_49 : decode b_R_orderEchoes 49 = .ok (.if_icmp .ge 29, 3) := by decide +kernel
theorem d_R_orderEchoes_52 : decode b_R_orderEchoes 52 = .ok (.aload_n 0, 1) := by decide +kernel
theorem d_R_orderEchoes_53 : decode b_R_orderEchoes 53 = .ok (.getfield 16, 3) := by decide +kernel
theorem d_R_orderEchoes_56 : decode b_R_orderEchoes 56 = .ok (.invokevirtual 191, 3) := by decide +kernel
theorem d_R_orderEchoes_59 : decode b_R_orderEchoes 59 = .ok (.lstore_n 2, 1) := by decide +kernel
theorem d_R_orderEchoes_60 : decode b_R_orderEchoes 60 = .ok (.aload_n 0, 1) := by decide +kernel
theorem d_R_orderEchoes_61 : decode b_R_orderEchoes 61 = .ok (.getfield 20, 3) := by decide +kernel
theorem d_R_orderEchoes_64 : decode b_R_orderEchoes 64 = .ok (.iload_n 1, 1) := by decide +kernel
theorem d_R_orderEchoes_65 : decode b_R_orderEchoes 65 = .ok (.lload_n 2, 1) := by decide +kernel
theorem d_R_orderEchoes_66 : decode b_R_orderEchoes 66 = .ok (.lastore, 1) := by decide +kernel
theorem d_R_orderEchoes_67 : decode b_R_orderEchoes 67 = .ok (.aload_n 0, 1) := by decide +kernel
theorem d_R_orderEchoes_68 : decode b_R_orderEchoes 68 = .ok (.lload_n 2, 1) := by decide +kernel
theorem d_R_orderEchoes_69 : decode b_R_orderEchoes 69 = .ok (.invokevirtual 195, 3) := by decide +kernel
theorem d_R_orderEchoes_72 : decode b_R_orderEchoes 72 = .ok (.iinc 1 1, 3) := by decide +kernel
theorem d_R_orderEchoes_75 : decode b_R_orderEchoes 75 = .ok (.goto (-30), 3) := by decide +kernel
theorem d_R_orderEchoes_78 : decode b_R_orderEchoes 78 = .ok (.aload_n 0, 1) := by decide +kernel
theorem d_R_orderEchoes_79 : decode b_R_orderEchoes 79 = .ok (.iconst 1, 1) := by decide +kernel
theorem d_R_orderEchoes_80 : decode b_R_orderEchoes 80 = .ok (.putfield 179, 3) := by decide +kernel
theorem d_R_orderEchoes_83 : decode b_R_orderEchoes 83 = .ok (.return_, 1) := by decide +kernel
theorem d_R_addFollowers_0 : decode b_R_addFollowers 0 = .ok (.aload_n 0, 1) := by decide +kernel
theorem d_R_addFollowers_1 : decode b_R_addFollowers 1 = .ok (.getfield 36, 3) := by decide +kernel
theorem d_R_addFollowers_4 : decode b_R_addFollowers 4 = .ok (.lload_n 1, 1) := by decide +kernel
theorem d_R_addFollowers_5 : decode b_R_addFollowers 5 = .ok (.invokestatic 88, 3) := by decide +kernel
theorem d_R_addFollowers_8 : decode b_R_addFollowers 8 = .ok (.invokevirtual 198, 3) := by decide +kernel
theorem d_R_addFollowers_11 : decode b_R_addFollowers 11 = .ok (.istore_n 3, 1) := by decide +kernel
theorem d_R_addFollowers_12 : decode b_R_addFollowers 12 = .ok (.aload_n 0, 1) := by decide +kernel
theorem d_R_addFollowers_13 : decode b_R_addFollowers 13 = .ok (.getfield 40, 3) := by decide +kernel
theorem d_R_addFollowers_16 : decode b_R_addFollowers 16 = .ok (.lload_n 1, 1) := by decide +kernel
theorem d_R_addFollowers_17 : decode b_R_addFollowers 17 = .ok (.invokestatic 92, 3) := by decide +kernel
theorem d_R_addFollowers_20 : decode b_R_addFollowers 20 = .ok (.invokevirtual 198, 3) := by decide +kernel
theorem d_R_addFollowers_23 : decode b_R_addFollowers 23 = .ok (.istore 4, 2) := by decide +kernel
theorem d_R_addFollowers_25 : decode b_R_addFollowers 25 = .ok (.aload_n 0, 1) := by decide +kernel
theorem d_R_addFollowers_26 : decode b_R_addFollowers 26 = .ok (.getfield 43, 3) := by decide +kernel
theorem d_R_addFollowers_29 : decode b_R_addFollowers 29 = .ok (.lload_n 1, 1) := by decide +kernel
theorem d_R_addFollowers_30 : decode b_R_addFollowers 30 = .ok (.invokestatic 95, 3) := by decide +kernel
theorem d_R_addFollowers_33 : decode b_R_addFollowers 33 = .ok (.invokevirtual 198, 3) := by decide +kernel
theorem d_R_addFollowers_36 : decode b_R_addFollowers 36 = .ok (.istore 5, 2) := by decide +kernel
theorem d_R_addFollowers_38 : decode b_R_addFollowers 38 = .ok (.aload_n 0, 1) := by decide +kernel
theorem d_R_addFollowers_39 : decode b_R_addFollowers 39 = .ok (.iload_n 3, 1) := by decide +kernel
theorem d_R_addFollowers_40 : decode b_R_addFollowers 40 = .ok (.iload 4, 2) := by decide +kernel
theorem d_R_addFollowers_42 : decode b_R_addFollowers 42 = .ok (.iload 5, 2) := by decide +kernel
theorem d_R_addFollowers_44 : decode b_R_addFollowers 44 = .ok (.iconst 1, 1) := by decide +kernel
theorem d_R_addFollowers_45 : decode b_R_addFollowers 45 = .ok (.iadd, 1) := by decide +kernel
theorem d_R_addFollowers_46 : decode b_R_addFollowers 46 = .ok (.invokevirtual 188, 3) := by decide +kernel
theorem d_R_addFollowers_49 : decode b_R_addFollowers 49 = .ok (.iload 5, 2) := by decide +kernel
theorem d_R_addFollowers_51 : decode b_R_addFollowers 51 = .ok (.ifCond .ne 13, 3) := by decide +kernel
theorem d_R_addFollowers_54 : decode b_R_addFollowers 54 = .ok (.aload_n 0, 1) := by decide +kernel
theorem d_R_addFollowers_55 : decode b_R_addFollowers 55 = .ok (.iload_n 3, 1) := by decide +kernel
theorem d_R_addFollowers_56 : decode b_R_addFollowers 56 = .ok (.iload 4, 2) := by decide +kernel
theorem d_R_addFollowers_58 : decode b_R_addFollowers 58 = .ok (.iconst 1, 1) := by decide +kernel
theorem d_R_addFollowers_59 : decode b_R_addFollowers 59 = .ok (.iadd, 1) := by decide +kernel
theorem d_R_addFollowers_60 : decode b_R_addFollowers 60 = .ok (.iconst 0, 1) := by decide +kernel
theorem d_R_addFollowers_61 : decode b_R_addFollowers 61 = .ok (.invokevirtual 188, 3) := by decide +kernel
theorem d_R_addFollowers_64 : decode b_R_addFollowers 64 = .ok (.iload 5, 2) := by decide +kernel
theorem d_R_addFollowers_66 : decode b_R_addFollowers 66 = .ok (.ifCond .ne 17, 3) := by decide +kernel
theorem d_R_addFollowers_69 : decode b_R_addFollowers 69 = .ok (.iload 4, 2) := by decide +kernel
theorem d_R_addFollowers_71 : decode b_R_addFollowers 71 = .ok (.ifCond .ne 12, 3) := by decide +kernel
theorem d_R_addFollowers_74 : decode b_R_addFollowers 74 = .ok (.aload_n 0, 1) := by decide +kernel
theorem d_R_addFollowers_75 : decode b_R_addFollowers 75 = .ok (.iload_n 3, 1) := by decide +kernel
theorem d_R_addFollowers_76 : decode b_R_addFollowers 76 = .ok (.iconst 1, 1) := by decide +kernel
theorem d_R_addFollowers_77 : decode b_R_addFollowers 77 = .ok (.iadd, 1) := by decide +kernel
theorem d_R_addFollowers_78 : decode b_R_addFollowers 78 = .ok (.iconst 0, 1) := by decide +kernel
theorem d_R_addFollowers_79 : decode b_R_addFollowers 79 = .ok (.iconst 0, 1) := by decide +kernel
theorem d_R_addFollowers_80 : decode b_R_addFollowers 80 = .ok (.invokevirtual 188, 3) := by decide +kernel
theorem d_R_addFollowers_83 : decode b_R_addFollowers 83 = .ok (.return_, 1) := by decide +kernel
theorem d_R_addAtRanks_0 : decode b_R_addAtRanks 0 = .ok (.iload_n 1, 1) := by decide +kernel
theorem d_R_addAtRanks_1 : decode b_R_addAtRanks 1 = .ok (.bipush 81, 2) := by decide +kernel
theorem d_R_addAtRanks_3 : decode b_R_addAtRanks 3 = .ok (.if_icmp .ge 79, 3) := by decide +kernel
theorem d_R_addAtRanks_6 : decode b_R_addAtRanks 6 = .ok (.iload_n 2, 1) := by decide +kernel
theorem d_R_addAtRanks_7 : decode b_R_addAtRanks 7 = .ok (.bipush 81, 2) := by decide +kernel
theorem d_R_addAtRanks_9 : decode b_R_addAtRanks 9 = .ok (.if_icmp .ge 73, 3) := by decide +kernel
theorem d_R_addAtRanks_12 : decode b_R_addAtRanks 12 = .ok (.iload_n 3, 1) := by decide +kernel
theorem d_R_addAtRanks_13 : decode b_R_addAtRanks 13 = .ok (.bipush 81, 2) := by decide +kernel
theorem d_R_addAtRanks_15 : decode b_R_addAtRanks 15 = .ok (.if_icmp .ge 67, 3) := by decide +kernel
theorem d_R_addAtRanks_18 : decode b_R_addAtRanks 18 = .ok (.aload_n 0, 1) := by decide +kernel
theorem d_R_addAtRanks_19 : decode b_R_addAtRanks 19 = .ok (.getfield 36, 3) := by decide +kernel
theorem d_R_addAtRanks_22 : decode b_R_addAtRanks 22 = .ok (.iload_n 1, 1) := by decide +kernel
theorem d_R_addAtRanks_23 : decode b_R_addAtRanks 23 = .ok (.invokevirtual 201, 3) := by decide +kernel
theorem d_R_addAtRanks_26 : decode b_R_addAtRanks 26 = .ok (.aload_n 0, 1) := by decide +kernel
theorem d_R_addAtRanks_27 : decode b_R_addAtRanks 27 = .ok (.getfield 40, 3) := by decide +kernel
theorem d_R_addAtRanks_30 : decode b_R_addAtRanks 30 = .ok (.iload_n 2, 1) := by decide +kernel
theorem d_R_addAtRanks_31 : decode b_R_addAtRanks 31 = .ok (.invokevirtual 201, 3) := by decide +kernel
theorem d_R_addAtRanks_34 : decode b_R_addAtRanks 34 = .ok (.ladd, 1) := by decide +kernel
theorem d_R_addAtRanks_35 : decode b_R_addAtRanks 35 = .ok (.aload_n 0, 1) := by decide +kernel
theorem d_R_addAtRanks_36 : decode b_R_addAtRanks 36 = .ok (.getfield 43, 3) := by decide +kernel
theorem d_R_addAtRanks_39 : decode b_R_addAtRanks 39 = .ok (.iload_n 3, 1) := by decide +kernel
theorem d_R_addAtRanks_40 : decode b_R_addAtRanks 40 = .ok (.invokevirtual 201, 3) := by decide +kernel
theorem d_R_addAtRanks_43 : decode b_R_addAtRanks 43 = .ok (.ladd, 1) := by decide +kernel
theorem d_R_addAtRanks_44 : decode b_R_addAtRanks 44 = .ok (.lstore 4, 2) := by decide +kernel
theorem d_R_addAtRanks_46 : decode b_R_addAtRanks 46 = .ok (.aload_n 0, 1) := by decide +kernel
theorem d_R_addAtRanks_47 : decode b_R_addAtRanks 47 = .ok (.getfield 16, 3) := by decide +kernel
theorem d_R_addAtRanks_50 : decode b_R_addAtRanks 50 = .ok (.lload 4, 2) := by decide +kernel
theorem d_R_addAtRanks_52 : decode b_R_addAtRanks 52 = .ok (.aload_n 0, 1) := by decide +kernel
theorem d_R_addAtRanks_53 : decode b_R_addAtRanks 53 = .ok (.getfield 36, 3) := by decide +kernel
theorem d_R_addAtRanks_56 : decode b_R_addAtRanks 56 = .ok (.iload_n 1, 1) := by decide +kernel
theorem d_R_addAtRanks_57 : decode b_R_addAtRanks 57 = .ok (.invokevirtual 204, 3) := by decide +kernel
theorem d_R_addAtRanks_60 : decode b_R_addAtRanks 60 = .ok (.aload_n 0, 1) := by decide +kernel
theorem d_R_addAtRanks_61 : decode b_R_addAtRanks 61 = .ok (.getfield 40, 3) := by decide +kernel
theorem d_R_addAtRanks_64 : decode b_R_addAtRanks 64 = .ok (.iload_n 2, 1) := by decide +kernel
theorem d_R_addAtRanks_65 : decode b_R_addAtRanks 65 = .ok (.invokevirtual 204, 3) := by decide +kernel
theorem d_R_addAtRanks_68 : decode b_R_addAtRanks 68 = .ok (.aload_n 0, 1) := by decide +kernel
theorem d_R_addAtRanks_69 : decode b_R_addAtRanks 69 = .ok (.getfield 43, 3) := by decide +kernel
theorem d_R_addAtRanks_72 : decode b_R_addAtRanks 72 = .ok (.iload_n 3, 1) := by decide +kernel
theorem d_R_addAtRanks_73 : decode b_R_addAtRanks 73 = .ok (.invokevirtual 204, 3) := by decide +kernel
theorem d_R_addAtRanks_76 : decode b_R_addAtRanks 76 = .ok (.invokestatic 102, 3) := by decide +kernel
theorem d_R_addAtRanks_79 : decode b_R_addAtRanks 79 = .ok (.invokevirtual 207, 3) := by decide +kernel
theorem d_R_addAtRanks_82 : decode b_R_addAtRanks 82 = .ok (.return_, 1) := by decide +kernel
theorem d_R_weighEchoes_0 : decode b_R_weighEchoes 0 = .ok (.aload_n 0, 1) := by decide +kernel
theorem d_R_weighEchoes_1 : decode b_R_weighEchoes 1 = .ok (.invokevirtual 85, 3) := by decide +kernel
theorem d_R_weighEchoes_4 : decode b_R_weighEchoes 4 = .ok (.aload_n 0, 1) := by decide +kernel
theorem d_R_weighEchoes_5 : decode b_R_weighEchoes 5 = .ok (.getfield 63, 3) := by decide +kernel
theorem d_R_weighEchoes_8 : decode b_R_weighEchoes 8 = .ok (.ifCond .eq 4, 3) := by decide +kernel
theorem d_R_weighEchoes_11 : decode b_R_weighEchoes 11 = .ok (.return_, 1) := by decide +kernel
theorem d_R_weighEchoes_12 : decode b_R_weighEchoes 12 = .ok (.iconst 0, 1) := by decide +kernel
theorem d_R_weighEchoes_13 : decode b_R_weighEchoes 13 = .ok (.istore_n 1, 1) := by decide +kernel
theorem d_R_weighEchoes_14 : decode b_R_weighEchoes 14 = .ok (.iload_n 1, 1) := by decide +kernel
theorem d_R_weighEchoes_15 : decode b_R_weighEchoes 15 = .ok (.sipush 500, 3) := by decide +kernel
theorem d_R_weighEchoes_18 : decode b_R_weighEchoes 18 = .ok (.if_icmp .ge 49, 3) := by decide +kernel
theorem d_R_weighEchoes_21 : decode b_R_weighEchoes 21 = .ok (.aload_n 0, 1) := by decide +kernel
theorem d_R_weighEchoes_22 : decode b_R_weighEchoes 22 = .ok (.getfield 20, 3) := by decide +kernel
theorem d_R_weighEchoes_25 : decode b_R_weighEchoes 25 = .ok (.iload_n 1, 1) := by decide +kernel
theorem d_R_weighEchoes_26 : decode b_R_weighEchoes 26 = .ok (.laload, 1) := by decide +kernel
theorem d_R_weighEchoes_27 : decode b_R_weighEchoes 27 = .ok (.lstore_n 2, 1) := by decide +kernel
theorem d_R_weighEchoes_28 : decode b_R_weighEchoes 28 = .ok (.aload_n 0, 1) := by decide +kernel
theorem d_R_weighEchoes_29 : decode b_R_weighEchoes 29 = .ok (.lload_n 2, 1) := by decide +kernel
theorem d_R_weighEchoes_30 : decode b_R_weighEchoes 30 = .ok (.invokestatic 88, 3) := by decide +kernel
theorem d_R_weighEchoes_33 : decode b_R_weighEchoes 33 = .ok (.lload_n 2, 1) := by decide +kernel
theorem d_R_weighEchoes_34 : decode b_R_weighEchoes 34 = .ok (.invokestatic 92, 3) := by decide +kernel
theorem d_R_weighEchoes_37 : decode b_R_weighEchoes 37 = .ok (.lload_n 2, 1) := by decide +kernel
theorem d_R_weighEchoes_38 : decode b_R_weighEchoes 38 = .ok (.invokestatic 95, 3) := by decide +kernel
theorem d_R_weighEchoes_41 : decode b_R_weighEchoes 41 = .ok (.invokevirtual 74, 3) := by decide +kernel
theorem d_R_weighEchoes_44 : decode b_R_weighEchoes 44 = .ok (.lstore 4, 2) := by decide +kernel
theorem d_R_weighEchoes_46 : decode b_R_weighEchoes 46 = .ok (.aload_n 0, 1) := by decide +kernel
theorem d_R_weighEchoes_47 : decode b_R_weighEchoes 47 = .ok (.getfield 24, 3) := by decide +kernel
theorem d_R_weighEchoes_50 : decode b_R_weighEchoes 50 = .ok (.iload_n 1, 1) := by decide +kernel
theorem d_R_weighEchoes_51 : decode b_R_weighEchoes 51 = .ok (.lload 4, 2) := by decide +kernel
theorem d_R_weighEchoes_53 : decode b_R_weighEchoes 53 = .ok (.lload_n 2, 1) := by decide +kernel
theorem d_R_weighEchoes_54 : decode b_R_weighEchoes 54 = .ok (.invokestatic 210, 3) := by decide +kernel
theorem d_R_weighEchoes_57 : decode b_R_weighEchoes 57 = .ok (.invokestatic 77, 3) := by decide +kernel
theorem d_R_weighEchoes_60 : decode b_R_weighEchoes 60 = .ok (.lastore, 1) := by decide +kernel
theorem d_R_weighEchoes_61 : decode b_R_weighEchoes 61 = .ok (.iinc 1 1, 3) := by decide +kernel
theorem d_R_weighEchoes_64 : decode b_R_weighEchoes 64 = .ok (.goto (-50), 3) := by decide +kernel
theorem d_R_weighEchoes_67 : decode b_R_weighEchoes 67 = .ok (.aload_n 0, 1) := by decide +kernel
theorem d_R_weighEchoes_68 : decode b_R_weighEchoes 68 = .ok (.iconst 1, 1) := by decide +kernel
theorem d_R_weighEchoes_69 : decode b_R_weighEchoes 69 = .ok (.putfield 63, 3) := by decide +kernel
theorem d_R_weighEchoes_72 : decode b_R_weighEchoes 72 = .ok (.return_, 1) := by decide +kernel
theorem d_R_countWithin_0 : decode b_R_countWithin 0 = .ok (.iconst 0, 1) := by decide +kernel
theorem d_R_countWithin_1 : decode b_R_countWithin 1 = .ok (.istore_n 3, 1) := by decide +kernel
theorem d_R_countWithin_2 : decode b_R_countWithin 2 = .ok (.iload_n 3, 1) := by decide +kernel
theorem d_R_countWithin_3 : decode b_R_countWithin 3 = .ok (.sipush 500, 3) := by decide +kernel
theorem d_R_countWithin_6 : decode b_R_countWithin 6 = .ok (.if_icmp .ge 23, 3) := by decide +kernel
theorem d_R_countWithin_9 : decode b_R_countWithin 9 = .ok (.aload_n 0, 1) := by decide +kernel
theorem d_R_countWithin_10 : decode b_R_countWithin 10 = .ok (.getfield 20, 3) := by decide +kernel
theorem d_R_countWithin_13 : decode b_R_countWithin 13 = .ok (.iload_n 3, 1) := by decide +kernel
theorem d_R_countWithin_14 : decode b_R_countWithin 14 = .ok (.laload, 1) := by decide +kernel
theorem d_R_countWithin_15 : decode b_R_countWithin 15 = .ok (.invokestatic 210, 3) := by decide +kernel
theorem d_R_countWithin_18 : decode b_R_countWithin 18 = .ok (.lload_n 1, 1) := by decide +kernel
theorem d_R_countWithin_19 : decode b_R_countWithin 19 = .ok (.lcmp, 1) := by decide +kernel
theorem d_R_countWithin_20 : decode b_R_countWithin 20 = .ok (.ifCond .gt 9, 3) := by decide +kernel
theorem d_R_countWithin_23 : decode b_R_countWithin 23 = .ok (.iinc 3 1, 3) := by decide +kernel
theorem d_R_countWithin_26 : decode b_R_countWithin 26 = .ok (.goto (-24), 3) := by decide +kernel
theorem d_R_countWithin_29 : decode b_R_countWithin 29 = .ok (.iload_n 3, 1) := by decide +kernel
theorem d_R_countWithin_30 : decode b_R_countWithin 30 = .ok (.ireturn, 1) := by decide +kernel
theorem d_R_loudnessBetween_0 : decode b_R_loudnessBetween 0 = .ok (.lconst 0, 1) := by decide +kernel
theorem d_R_loudnessBetween_1 : decode b_R_loudnessBetween 1 = .ok (.lstore_n 3, 1) := by decide +kernel
theorem d_R_loudnessBetween_2 : decode b_R_loudnessBetween 2 = .ok (.iconst 0, 1) := by decide +kernel
theorem d_R_loudnessBetween_3 : decode b_R_loudnessBetween 3 = .ok (.iload_n 1, 1) := by decide +kernel
theorem d_R_loudnessBetween_4 : decode b_R_loudnessBetween 4 = .ok (.invokestatic 133, 3) := by decide +kernel
theorem d_R_loudnessBetween_7 : decode b_R_loudnessBetween 7 = .ok (.istore 5, 2) := by decide +kernel
theorem d_R_loudnessBetween_9 : decode b_R_loudnessBetween 9 = .ok (.iload 5, 2) := by decide +kernel
theorem d_R_loudnessBetween_11 : decode b_R_loudnessBetween 11 = .ok (.iload_n 2, 1) := by decide +kernel
theorem d_R_loudnessBetween_12 : decode b_R_loudnessBetween 12 = .ok (.if_icmp .ge 27, 3) := by decide +kernel
theorem d_R_loudnessBetween_15 : decode b_R_loudnessBetween 15 = .ok (.iload 5, 2) := by decide +kernel
theorem d_R_loudnessBetween_17 : decode b_R_loudnessBetween 17 = .ok (.sipush 500, 3) := by decide +kernel
theorem d_R_loudnessBetween_20 : decode b_R_loudnessBetween 20 = .ok (.if_icmp .ge 19, 3) := by decide +kernel
theorem d_R_loudnessBetween_23 : decode b_R_loudnessBetween 23 = .ok (.lload_n 3, 1) := by decide +kernel
theorem d_R_loudnessBetween_24 : decode b_R_loudnessBetween 24 = .ok (.aload_n 0, 1) := by decide +kernel
theorem d_R_loudnessBetween_25 : decode b_R_loudnessBetween 25 = .ok (.getfield 24, 3) := by decide +kernel
theorem d_R_loudnessBetween_28 : decode b_R_loudnessBetween 28 = .ok (.iload 5, 2) := by decide +kernel
theorem d_R_loudnessBetween_30 : decode b_R_loudnessBetween 30 = .ok (.laload, 1) := by decide +kernel
theorem d_R_loudnessBetween_31 : decode b_R_loudnessBetween 31 = .ok (.ladd, 1) := by decide +kernel
theorem d_R_loudnessBetween_32 : decode b_R_loudnessBetween 32 = .ok (.lstore_n 3, 1) := by decide +kernel
theorem d_R_loudnessBetween_33 : decode b_R_loudnessBetween 33 = .ok (.iinc 5 1, 3) := by decide +kernel
theorem d_R_loudnessBetween_36 : decode b_R_loudnessBetween 36 = .ok (.goto (-27), 3) := by decide +kernel
theorem d_R_loudnessBetween_39 : decode b_R_loudnessBetween 39 = .ok (.lload_n 3, 1) := by decide +kernel
theorem d_R_loudnessBetween_40 : decode b_R_loudnessBetween 40 = .ok (.lreturn, 1) := by decide +kernel
theorem d_R_greatestCommonDivisor_0 : decode b_R_greatestCommonDivisor 0 = .ok (.lload_n 0, 1) := by decide +kernel
theorem d_R_greatestCommonDivisor_1 : decode b_R_greatestCommonDivisor 1 = .ok (.lstore 4, 2) := by decide +kernel
theorem d_R_greatestCommonDivisor_3 : decode b_R_greatestCommonDivisor 3 = .ok (.lload_n 2, 1) := by decide +kernel
theorem d_R_greatestCommonDivisor_4 : decode b_R_greatestCommonDivisor 4 = .ok (.lstore 6, 2) := by decide +kernel
theorem d_R_greatestCommonDivisor_6 : decode b_R_greatestCommonDivisor 6 = .ok (.iconst 0, 1) := by decide +kernel
theorem d_R_greatestCommonDivisor_7 : decode b_R_greatestCommonDivisor 7 = .ok (.istore 8, 2) := by decide +kernel
theorem d_R_greatestCommonDivisor_9 : decode b_R_greatestCommonDivisor 9 = .ok (.iload 8, 2) := by decide +kernel
theorem d_R_greatestCommonDivisor_11 : decode b_R_greatestCommonDivisor 11 = .ok (.sipush 1000, 3) := by decide +kernel
theorem d_R_greatestCommonDivisor_14 : decode b_R_greatestCommonDivisor 14 = .ok (.if_icmp .ge 31, 3) := by decide +kernel
theorem d_R_greatestCommonDivisor_17 : decode b_R_greatestCommonDivisor 17 = .ok (.lload 6, 2) := by decide +kernel
theorem d_R_greatestCommonDivisor_19 : decode b_R_greatestCommonDivisor 19 = .ok (.lconst 0, 1) := by decide +kernel
theorem d_R_greatestCommonDivisor_20 : decode b_R_greatestCommonDivisor 20 = .ok (.lcmp, 1) := by decide +kernel
theorem d_R_greatestCommonDivisor_21 : decode b_R_greatestCommonDivisor 21 = .ok (.ifCond .eq 24, 3) := by decide +kernel
theorem d_R_greatestCommonDivisor_24 : decode b_R_greatestCommonDivisor 24 = .ok (.lload 4, 2) := by decide +kernel
theorem d_R_greatestCommonDivisor_26 : decode b_R_greatestCommonDivisor 26 = .ok (.lload 6, 2) := by decide +kernel
theorem d_R_greatestCommonDivisor_28 : decode b_R_greatestCommonDivisor 28 = .ok (.lrem, 1) := by decide +kernel
theorem d_R_greatestCommonDivisor_29 : decode b_R_greatestCommonDivisor 29 = .ok (.lstore 9, 2) := by decide +kernel
theorem d_R_greatestCommonDivisor_31 : decode b_R_greatestCommonDivisor 31 = .ok (.lload 6, 2) := by decide +kernel
theorem d_R_greatestCommonDivisor_33 : decode b_R_greatestCommonDivisor 33 = .ok (.lstore 4, 2) := by decide +kernel
theorem d_R_greatestCommonDivisor_35 : decode b_R_greatestCommonDivisor 35 = .ok (.lload 9, 2) := by decide +kernel
theorem d_R_greatestCommonDivisor_37 : decode b_R_greatestCommonDivisor 37 = .ok (.lstore 6, 2) := by decide +kernel
theorem d_R_greatestCommonDivisor_39 : decode b_R_greatestCommonDivisor 39 = .ok (.iinc 8 1, 3) := by decide +kernel
theorem d_R_greatestCommonDivisor_42 : decode b_R_greatestCommonDivisor 42 = .ok (.goto (-33), 3) := by decide +kernel
theorem d_R_greatestCommonDivisor_45 : decode b_R_greatestCommonDivisor 45 = .ok (.lload 4, 2) := by decide +kernel
theorem d_R_greatestCommonDivisor_47 : decode b_R_greatestCommonDivisor 47 = .ok (.lreturn, 1) := by decide +kernel
