theorem d_R_enough_44 : decode b_R_enough 44 = .ok (.iload 6, 2) := by decide +kernel
theorem d_R_enough_46 : decode b_R_enough 46 = .ok (.laload, 1) := by decide +kernel
theorem d_R_enough_47 : decode b_R_enough 47 = .ok (.ladd, 1) := by decide +kernel
theorem d_R_enough_48 : decode b_R_enough 48 = .ok (.lstore 4, 2) := by decide +kernel
theorem d_R_enough_50 : decode b_R_enough 50 = .ok (.lload 4, 2) := by decide +kernel
theorem d_R_enough_52 : decode b_R_enough 52 = .ok (.ldc2_w 123, 3) := by decide +kernel
theorem d_R_enough_55 : decode b_R_enough 55 = .ok (.lmul, 1) := by decide +kernel
theorem d_R_enough_56 : decode b_R_enough 56 = .ok (.lload_n 2, 1) := by decide +kernel
theorem d_R_enough_57 : decode b_R_enough 57 = .ok (.lcmp, 1) := by decide +kernel
theorem d_R_enough_58 : decode b_R_enough 58 = .ok (.ifCond .lt 6, 3) := by decide +kernel
theorem d_R_enough_61 : decode b_R_enough 61 = .ok (.iload 6, 2) := by decide +kernel
theorem d_R_enough_63 : decode b_R_enough 63 = .ok (.ireturn, 1) := by decide +kernel
theorem d_R_enough_64 : decode b_R_enough 64 = .ok (.iinc 6 1, 3) := by decide +kernel
theorem d_R_enough_67 : decode b_R_enough 67 = .ok (.goto (-37), 3) := by decide +kernel
theorem d_R_enough_70 : decode b_R_enough 70 = .ok (.sipush 499, 3) := by decide +kernel
theorem d_R_enough_73 : decode b_R_enough 73 = .ok (.ireturn, 1) := by decide +kernel
theorem d_R_loudest_0 : decode b_R_loudest 0 = .ok (.iload_n 1, 1) := by decide +kernel
theorem d_R_loudest_1 : decode b_R_loudest 1 = .ok (.iconst (-1), 1) := by decide +kernel
theorem d_R_loudest_2 : decode b_R_loudest 2 = .ok (.sipush 499, 3) := by decide +kernel
theorem d_R_loudest_5 : decode b_R_loudest 5 = .ok (.invokestatic 60, 3) := by decide +kernel
theorem d_R_loudest_8 : decode b_R_loudest 8 = .ok (.aload_n 0, 1) := by decide +kernel
theorem d_R_loudest_9 : decode b_R_loudest 9 = .ok (.invokevirtual 113, 3) := by decide +kernel
theorem d_R_loudest_12 : decode b_R_loudest 12 = .ok (.iconst (-1), 1) := by decide +kernel
theorem d_R_loudest_13 : decode b_R_loudest 13 = .ok (.istore_n 2, 1) := by decide +kernel
theorem d_R_loudest_14 : decode b_R_loudest 14 = .ok (.ldc2_w 125, 3) := by decide +kernel
theorem d_R_loudest_17 : decode b_R_loudest 17 = .ok (.lstore_n 3, 1) := by decide +kernel
theorem d_R_loudest_18 : decode b_R_loudest 18 = .ok (.iload_n 1, 1) := by decide +kernel
theorem d_R_loudest_19 : decode b_R_loudest 19 = .ok (.iconst 1, 1) := by decide +kernel
theorem d_R_loudest_20 : decode b_R_loudest 20 = .ok (.iadd, 1) := by decide +kernel
theorem d_R_loudest_21 : decode b_R_loudest 21 = .ok (.istore 5, 2) := by decide +kernel
theorem d_R_loudest_23 : decode b_R_loudest 23 = .ok (.iload 5, 2) := by decide +kernel
theorem d_R_loudest_25 : decode b_R_loudest 25 = .ok (.sipush 500, 3) := by decide +kernel
theorem d_R_loudest_28 : decode b_R_loudest 28 = .ok (.if_icmp .ge 32, 3) := by decide +kernel
theorem d_R_loudest_31 : decode b_R_loudest 31 = .ok (.aload_n 0, 1) := by decide +kernel
theorem d_R_loudest_32 : decode b_R_loudest 32 = .ok (.getfield 24, 3) := by decide +kernel
theorem d_R_loudest_35 : decode b_R_loudest 35 = .ok (.iload 5, 2) := by decide +kernel
theorem d_R_loudest_37 : decode b_R_loudest 37 = .ok (.laload, 1) := by decide +kernel
theorem d_R_loudest_38 : decode b_R_loudest 38 = .ok (.lload_n 3, 1) := by decide +kernel
theorem d_R_loudest_39 : decode b_R_loudest 39 = .ok (.lcmp, 1) := by decide +kernel
theorem d_R_loudest_40 : decode b_R_loudest 40 = .ok (.ifCond .le 14, 3) := by decide +kernel
theorem d_R_loudest_43 : decode b_R_loudest 43 = .ok (.aload_n 0, 1) := by decide +kernel
theorem d_R_loudest_44 : decode b_R_loudest 44 = .ok (.getfield 24, 3) := by decide +kernel
theorem d_R_loudest_47 : decode b_R_loudest 47 = .ok (.iload 5, 2) := by decide +kernel
theorem d_R_loudest_49 : decode b_R_loudest 49 = .ok (.laload, 1) := by decide +kernel
theorem d_R_loudest_50 : decode b_R_loudest 50 = .ok (.lstore_n 3, 1) := by decide +kernel
theorem d_R_loudest_51 : decode b_R_loudest 51 = .ok (.iload 5, 2) := by decide +kernel
theorem d_R_loudest_53 : decode b_R_loudest 53 = .ok (.istore_n 2, 1) := by decide +kernel
theorem d_R_loudest_54 : decode b_R_loudest 54 = .ok (.iinc 5 1, 3) := by decide +kernel
theorem d_R_loudest_57 : decode b_R_loudest 57 = .ok (.goto (-34), 3) := by decide +kernel
theorem d_R_loudest_60 : decode b_R_loudest 60 = .ok (.iload_n 2, 1) := by decide +kernel
theorem d_R_loudest_61 : decode b_R_loudest 61 = .ok (.ireturn, 1) := by decide +kernel
theorem d_R_sizeWithin_0 : decode b_R_sizeWithin 0 = .ok (.iconst 1, 1) := by decide +kernel
theorem d_R_sizeWithin_1 : decode b_R_sizeWithin 1 = .ok (.sipush 1000, 3) := by decide +kernel
theorem d_R_sizeWithin_4 : decode b_R_sizeWithin 4 = .ok (.iload_n 0, 1) := by decide +kernel
theorem d_R_sizeWithin_5 : decode b_R_sizeWithin 5 = .ok (.invokestatic 127, 3) := by decide +kernel
theorem d_R_sizeWithin_8 : decode b_R_sizeWithin 8 = .ok (.invokestatic 133, 3) := by decide +kernel
theorem d_R_sizeWithin_11 : decode b_R_sizeWithin 11 = .ok (.ireturn, 1) := by decide +kernel
theorem d_R_requireWithin_0 : decode b_R_requireWithin 0 = .ok (.iload_n 0, 1) := by decide +kernel
theorem d_R_requireWithin_1 : decode b_R_requireWithin 1 = .ok (.iload_n 1, 1) := by decide +kernel
theorem d_R_requireWithin_2 : decode b_R_requireWithin 2 = .ok (.if_icmp .lt 8, 3) := by decide +kernel
theorem d_R_requireWithin_5 : decode b_R_requireWithin 5 = .ok (.iload_n 0, 1) := by decide +kernel
theorem d_R_requireWithin_6 : decode b_R_requireWithin 6 = .ok (.iload_n 2, 1) := by decide +kernel
theorem d_R_requireWithin_7 : decode b_R_requireWithin 7 = .ok (.if_icmp .le 13, 3) := by decide +kernel
theorem d_R_requireWithin_10 : decode b_R_requireWithin 10 = .ok (.new 136, 3) := by decide +kernel
theorem d_R_requireWithin_13 : decode b_R_requireWithin 13 = .ok (.dup, 1) := by decide +kernel
theorem d_R_requireWithin_14 : decode b_R_requireWithin 14 = .ok (.ldc 138, 2) := by decide +kernel
theorem d_R_requireWithin_16 : decode b_R_requireWithin 16 = .ok (.invokespecial 140, 3) := by decide +kernel
theorem d_R_requireWithin_19 : decode b_R_requireWithin 19 = .ok (.athrow, 1) := by decide +kernel
theorem d_R_requireWithin_20 : decode b_R_requireWithin 20 = .ok (.return_, 1) := by decide +kernel
theorem d_R_requireDistance_0 : decode b_R_requireDistance 0 = .ok (.lload_n 0, 1) := by decide +kernel
theorem d_R_requireDistance_1 : decode b_R_requireDistance 1 = .ok (.lconst 0, 1) := by decide +kernel
theorem d_R_requireDistance_2 : decode b_R_requireDistance 2 = .ok (.lcmp, 1) := by decide +kernel
theorem d_R_requireDistance_3 : decode b_R_requireDistance 3 = .ok (.ifCond .ge 13, 3) := by decide +kernel
theorem d_R_requireDistance_6 : decode b_R_requireDistance 6 = .ok (.new 136, 3) := by decide +kernel
theorem d_R_requireDistance_9 : decode b_R_requireDistance 9 = .ok (.dup, 1) := by decide +kernel
theorem d_R_requireDistance_10 : decode b_R_requireDistance 10 = .ok (.ldc 143, 2) := by decide +kernel
theorem d_R_requireDistance_12 : decode b_R_requireDistance 12 = .ok (.invokespecial 140, 3) := by decide +kernel
theorem d_R_requireDistance_15 : decode b_R_requireDistance 15 = .ok (.athrow, 1) := by decide +kernel
theorem d_R_requireDistance_16 : decode b_R_requireDistance 16 = .ok (.return_, 1) := by decide +kernel
theorem d_R_requireNumbers_0 : decode b_R_requireNumbers 0 = .ok (.iload_n 0, 1) := by decide +kernel
theorem d_R_requireNumbers_1 : decode b_R_requireNumbers 1 = .ok (.bipush (-40), 2) := by decide +kernel
theorem d_R_requireNumbers_3 : decode b_R_requireNumbers 3 = .ok (.bipush 40, 2) := by decide +kernel
theorem d_R_requireNumbers_5 : decode b_R_requireNumbers 5 = .ok (.invokestatic 60, 3) := by decide +kernel
theorem d_R_requireNumbers_8 : decode b_R_requireNumbers 8 = .ok (.iload_n 1, 1) := by decide +kernel
theorem d_R_requireNumbers_9 : decode b_R_requireNumbers 9 = .ok (.bipush (-40), 2) := by decide +kernel
theorem d_R_requireNumbers_11 : decode b_R_requireNumbers 11 = .ok (.bipush 40, 2) := by decide +kernel
theorem d_R_requireNumbers_13 : decode b_R_requireNumbers 13 = .ok (.invokestatic 60, 3) := by decide +kernel
theorem d_R_requireNumbers_16 : decode b_R_requireNumbers 16 = .ok (.iload_n 2, 1) := by decide +kernel
theorem d_R_requireNumbers_17 : decode b_R_requireNumbers 17 = .ok (.bipush (-40), 2) := by decide +kernel
theorem d_R_requireNumbers_19 : decode b_R_requireNumbers 19 = .ok (.bipush 40, 2) := by decide +kernel
theorem d_R_requireNumbers_21 : decode b_R_requireNumbers 21 = .ok (.invokestatic 60, 3) := by decide +kernel
theorem d_R_requireNumbers_24 : decode b_R_requireNumbers 24 = .ok (.return_, 1) := by decide +kernel
theorem d_R_requirePoint_0 : decode b_R_requirePoint 0 = .ok (.iload_n 1, 1) := by decide +kernel
theorem d_R_requirePoint_1 : decode b_R_requirePoint 1 = .ok (.iconst 0, 1) := by decide +kernel
theorem d_R_requirePoint_2 : decode b_R_requirePoint 2 = .ok (.aload_n 0, 1) := by decide +kernel
theorem d_R_requirePoint_3 : decode b_R_requirePoint 3 = .ok (.getfield 36, 3) := by decide +kernel
theorem d_R_requirePoint_6 : decode b_R_requirePoint 6 = .ok (.getfield 145, 3) := by decide +kernel
theorem d_R_requirePoint_9 : decode b_R_requirePoint 9 = .ok (.invokestatic 60, 3) := by decide +kernel
theorem d_R_requirePoint_12 : decode b_R_requirePoint 12 = .ok (.iload_n 2, 1) := by decide +kernel
theorem d_R_requirePoint_13 : decode b_R_requirePoint 13 = .ok (.iconst 0, 1) := by decide +kernel
theorem d_R_requirePoint_14 : decode b_R_requirePoint 14 = .ok (.aload_n 0, 1) := by decide +kernel
theorem d_R_requirePoint_15 : decode b_R_requirePoint 15 = .ok (.getfield 40, 3) := by decide +kernel
theorem d_R_requirePoint_18 : decode b_R_requirePoint 18 = .ok (.getfield 145, 3) := by decide +kernel
theorem d_R_requirePoint_21 : decode b_R_requirePoint 21 = .ok (.invokestatic 60, 3) := by decide +kernel
theorem d_R_requirePoint_24 : decode b_R_requirePoint 24 = .ok (.iload_n 3, 1) := by decide +kernel
theorem d_R_requirePoint_25 : decode b_R_requirePoint 25 = .ok (.iconst 0, 1) := by decide +kernel
theorem d_R_requirePoint_26 : decode b_R_requirePoint 26 = .ok (.aload_n 0, 1) := by decide +kernel
theorem d_R_requirePoint_27 : decode b_R_requirePoint 27 = .ok (.getfield 43, 3) := by decide +kernel
theorem d_R_requirePoint_30 : decode b_R_requirePoint 30 = .ok (.getfield 145, 3) := by decide +kernel
theorem d_R_requirePoint_33 : decode b_R_requirePoint 33 = .ok (.invokestatic 60, 3) := by decide +kernel
theorem d_R_requirePoint_36 : decode b_R_requirePoint 36 = .ok (.return_, 1) := by decide +kernel
theorem d_R_distanceOf_0 : decode b_R_distanceOf 0 = .ok (.aload_n 0, 1) := by decide +kernel
theorem d_R_distanceOf_1 : decode b_R_distanceOf 1 = .ok (.getfield 36, 3) := by decide +kernel
theorem d_R_distanceOf_4 : decode b_R_distanceOf 4 = .ok (.iload_n 1, 1) := by decide +kernel
theorem d_R_distanceOf_5 : decode b_R_distanceOf 5 = .ok (.invokevirtual 148, 3) := by decide +kernel
theorem d_R_distanceOf_8 : decode b_R_distanceOf 8 = .ok (.aload_n 0, 1) := by decide +kernel
theorem d_R_distanceOf_9 : decode b_R_distanceOf 9 = .ok (.getfield 40, 3) := by decide +kernel
theorem d_R_distanceOf_12 : decode b_R_distanceOf 12 = .ok (.iload_n 2, 1) := by decide +kernel
theorem d_R_distanceOf_13 : decode b_R_distanceOf 13 = .ok (.invokevirtual 148, 3) := by decide +kernel
theorem d_R_distanceOf_16 : decode b_R_distanceOf 16 = .ok (.ladd, 1) := by decide +kernel
theorem d_R_distanceOf_17 : decode b_R_distanceOf 17 = .ok (.aload_n 0, 1) := by decide +kernel
theorem d_R_distanceOf_18 : decode b_R_distanceOf 18 = .ok (.getfield 43, 3) := by decide +kernel
theorem d_R_distanceOf_21 : decode b_R_distanceOf 21 = .ok (.iload_n 3, 1) := by decide +kernel
theorem d_R_distanceOf_22 : decode b_R_distanceOf 22 = .ok (.invokevirtual 148, 3) := by decide +kernel
theorem d_R_distanceOf_25 : decode b_R_distanceOf 25 = .ok (.ladd, 1) := by decide +kernel
theorem d_R_distanceOf_26 : decode b_R_distanceOf 26 = .ok (.lreturn, 1) := by decide +kernel
theorem d_R_strengthOf_0 : decode b_R_strengthOf 0 = .ok (.ldc2_w 152, 3) := by decide +kernel
theorem d_R_strengthOf_3 : decode b_R_strengthOf 3 = .ok (.iload_n 1, 1) := by decide +kernel
theorem d_R_strengthOf_4 : decode b_R_strengthOf 4 = .ok (.aload_n 0, 1) := by decide +kernel
theorem d_R_strengthOf_5 : decode b_R_strengthOf 5 = .ok (.getfield 9, 3) := by decide +kernel
theorem d_R_strengthOf_8 : decode b_R_strengthOf 8 = .ok (.iconst 0, 1) := by decide +kernel
theorem d_R_strengthOf_9 : decode b_R_strengthOf 9 = .ok (.iaload, 1) := by decide +kernel
theorem d_R_strengthOf_10 : decode b_R_strengthOf 10 = .ok (.aload_n 0, 1) := by decide +kernel
theorem d_R_strengthOf_11 : decode b_R_strengthOf 11 = .ok (.getfield 9, 3) := by decide +kernel
theorem d_R_strengthOf_14 : decode b_R_strengthOf 14 = .ok (.iconst 1, 1) := by decide +kernel
theorem d_R_strengthOf_15 : decode b_R_strengthOf 15 = .ok (.iaload, 1) := by decide +kernel
theorem d_R_strengthOf_16 : decode b_R_strengthOf 16 = .ok (.invokestatic 154, 3) := by decide +kernel
theorem d_R_strengthOf_19 : decode b_R_strengthOf 19 = .ok (.lstore 4, 2) := by decide +kernel
theorem d_R_strengthOf_21 : decode b_R_strengthOf 21 = .ok (.lload 4, 2) := by decide +kernel
theorem d_R_strengthOf_23 : decode b_R_strengthOf 23 = .ok (.iload_n 2, 1) := by decide +kernel
theorem d_R_strengthOf_24 : decode b_R_strengthOf 24 = .ok (.aload_n 0, 1) := by decide +kernel
theorem d_R_strengthOf_25 : decode b_R_strengthOf 25 = .ok (.getfield 9, 3) := by decide +kernel
theorem d_R_strengthOf_28 : decode b_R_strengthOf 28 = .ok (.iconst 2, 1) := by decide +kernel
theorem d_R_strengthOf_29 : decode b_R_strengthOf 29 = .ok (.iaload, 1) := by decide +kernel
theorem d_R_strengthOf_30 : decode b_R_strengthOf 30 = .ok (.aload_n 0, 1) := by decide +kernel
theorem d_R_strengthOf_31 : decode b_R_strengthOf 31 = .ok (.getfield 9, 3) := by decide +kernel
theorem d_R_strengthOf_34 : decode b_R_strengthOf 34 = .ok (.iconst 3, 1) := by decide +kernel
theorem d_R_strengthOf_35 : decode b_R_strengthOf 35 = .ok (.iaload, 1) := by decide +kernel
theorem d_R_strengthOf_36 : decode b_R_strengthOf 36 = .ok (.invokestatic 154, 3) := by decide +kernel
theorem d_R_strengthOf_39 : decode b_R_strengthOf 39 = .ok (.lstore 6, 2) := by decide +kernel
theorem d_R_strengthOf_41 : decode b_R_strengthOf 41 = .ok (.lload 6, 2) := by decide +kernel
theorem d_R_strengthOf_43 : decode b_R_strengthOf 43 = .ok (.iload_n 3, 1) := by decide +kernel
theorem d_R_strengthOf_44 : decode b_R_strengthOf 44 = .ok (.aload_n 0, 1) := by decide +kernel
theorem d_R_strengthOf_45 : decode b_R_strengthOf 45 = .ok (.getfield 9, 3) := by decide +kernel
theorem d_R_strengthOf_48 : decode b_R_strengthOf 48 = .ok (.iconst 4, 1) := by decide +kernel
theorem d_R_strengthOf_49 : decode b_R_strengthOf 49 = .ok (.iaload, 1) := by decide +kernel
theorem d_R_strengthOf_50 : decode b_R_strengthOf 50 = .ok (.aload_n 0, 1) := by decide +kernel
theorem d_R_strengthOf_51 : decode b_R_strengthOf 51 = .ok (.getfield 9, 3) := by decide +kernel
theorem d_R_strengthOf_54 : decode b_R_strengthOf 54 = .ok (.iconst 5, 1) := by decide +kernel
theorem d_R_strengthOf_55 : decode b_R_strengthOf 55 = .ok (.iaload, 1) := by decide +kernel
theorem d_R_strengthOf_56 : decode b_R_strengthOf 56 = .ok (.invokestatic 154, 3) := by decide +kernel
theorem d_R_strengthOf_59 : decode b_R_strengthOf 59 = .ok (.lreturn, 1) := by decide +kernel
theorem d_R_strengthAfterAxis_0 : decode b_R_strengthAfterAxis 0 = .ok (.lload_n 0, 1) := by decide +kernel
theorem d_R_strengthAfterAxis_1 : decode b_R_strengthAfterAxis 1 = .ok (.iload_n 2, 1) := by decide +kernel
theorem d_R_strengthAfterAxis_2 : decode b_R_strengthAfterAxis 2 = .ok (.invokestatic 157, 3) := by decide +kernel
theorem d_R_strengthAfterAxis_5 : decode b_R_strengthAfterAxis 5 = .ok (.iload_n 3, 1) := by decide +kernel
theorem d_R_strengthAfterAxis_6 : decode b_R_strengthAfterAxis 6 = .ok (.invokestatic 160, 3) := by decide +kernel
theorem d_R_strengthAfterAxis_9 : decode b_R_strengthAfterAxis 9 = .ok (.lstore 5, 2) := by decide +kernel
theorem d_R_strengthAfterAxis_11 : decode b_R_strengthAfterAxis 11 = .ok (.lload 5, 2) := by decide +kernel
theorem d_R_strengthAfterAxis_13 : decode b_R_strengthAfterAxis 13 = .ok (.iload_n 2, 1) := by decide +kernel
theorem d_R_strengthAfterAxis_14 : decode b_R_strengthAfterAxis 14 = .ok (.invokestatic 164, 3) := by decide +kernel
theorem d_R_strengthAfterAxis_17 : decode b_R_strengthAfterAxis 17 = .ok (.iload 4, 2) := by decide +kernel
theorem d_R_strengthAfterAxis_19 : decode b_R_strengthAfterAxis 19 = .ok (.invokestatic 160, 3) := by decide +kernel
theorem d_R_strengthAfterAxis_22 : decode b_R_strengthAfterAxis 22 = .ok (.lreturn, 1) := by decide +kernel
theorem d_R_strengthAfterHits_0 : decode b_R_strengthAfterHits 0 = .ok (.lload_n 0, 1) := by decide +kernel
theorem d_R_strengthAfterHits_1 : decode b_R_strengthAfterHits 1 = .ok (.lstore 4, 2) := by decide +kernel
theorem d_R_strengthAfterHits_3 : decode b_R_strengthAfterHits 3 = .ok (.iconst 0, 1) := by decide +kernel
theorem d_R_strengthAfterHits_4 : decode b_R_strengthAfterHits 4 = .ok (.istore 6, 2) := by decide +kernel
theorem d_R_strengthAfterHits_6 : decode b_R_strengthAfterHits 6 = .ok (.iload 6, 2) := by decide +kernel
theorem d_R_strengthAfterHits_8 : decode b_R_strengthAfterHits 8 = .ok (.iload_n 2, 1) := by decide +kernel
theorem d_R_strengthAfterHits_9 : decode b_R_strengthAfterHits 9 = .ok (.if_icmp .ge 20, 3) := by decide +kernel
theorem d_R_strengthAfterHits_12 : decode b_R_strengthAfterHits 12 = .ok (.lload 4, 2) := by decide +kernel
theorem d_R_strengthAfterHits_14 : decode b_R_strengthAfterHits 14 = .ok (.iload_n 3, 1) := by decide +kernel
theorem d_R_strengthAfterHits_15 : decode b_R_strengthAfterHits 15 = .ok (.i2l, 1) := by decide +kernel
theorem d_R_strengthAfterHits_16 : decode b_R_strengthAfterHits 16 = .ok (.lmul, 1) := by decide +kernel
theorem d_R_strengthAfterHits_17 : decode b_R_strengthAfterHits 17 = .ok (.ldc2_w 123, 3) := by decide +kernel
theorem d_R_strengthAfterHits_20 : decode b_R_strengthAfterHits 20 = .ok (.ldiv, 1) := by decide +kernel
theorem d_R_strengthAfterHits_21 : decode b_R_strengthAfterHits 21 = .ok (.lstore 4, 2) := by decide +kernel
theorem d_R_strengthAfterHits_23 : decode b_R_strengthAfterHits 23 = .ok (.iinc 6 1, 3) := by decide +kernel
theorem d_R_strengthAfterHits_26 : decode b_R_strengthAfterHits 26 = .ok (.goto (-20), 3) := by decide +kernel
theorem d_R_strengthAfterHits_29 : decode b_R_strengthAfterHits 29 = .ok (.lload 4, 2) := by decide +kernel
theorem d_R_strengthAfterHits_31 : decode b_R_strengthAfterHits 31 = .ok (.lreturn, 1) := by decide +kernel
theorem d_R_hitsAtZero_0 : decode b_R_hitsAtZero 0 = .ok (.iload_n 0, 1) := by decide +kernel
theorem d_R_hitsAtZero_1 : decode b_R_hitsAtZero 1 = .ok (.ifCond .lt 9, 3) := by decide +kernel
theorem d_R_hitsAtZero_4 : decode b_R_hitsAtZero 4 = .ok (.iload_n 0, 1) := by decide +kernel
theorem d_R_hitsAtZero_5 : decode b_R_hitsAtZero 5 = .ok (.iconst 2, 1) := by decide +kernel
theorem d_R_hitsAtZero_6 : decode b_R_hitsAtZero 6 = .ok (.idiv, 1) := by decide +kernel
theorem d_R_hitsAtZero_7 : decode b_R_hitsAtZero 7 = .ok (.goto 8, 3) := by decide +kernel
theorem d_R_hitsAtZero_10 : decode b_R_hitsAtZero 10 = .ok (.iconst 1, 1) := by decide +kernel
theorem d_R_hitsAtZero_11 : decode b_R_hitsAtZero 11 = .ok (.iload_n 0, 1) := by decide +kernel
theorem d_R_hitsAtZero_12 : decode b_R_hitsAtZero 12 = .ok (.isub, 1) := by decide +kernel
theorem d_R_hitsAtZero_13 : decode b_R_hitsAtZero 13 = .ok (.iconst 2, 1) := by decide +kernel
theorem d_R_hitsAtZero_14 : decode b_R_hitsAtZero 14 = .ok (.idiv, 1) := by decide +kernel
theorem d_R_hitsAtZero_15 : decode b_R_hitsAtZero 15 = .ok (.ireturn, 1) := by decide +kernel
theorem d_R_hitsAtSize_0 : decode b_R_hitsAtSize 0 = .ok (.iload_n 0, 1) := by decide +kernel
theorem d_R_hitsAtSize_1 : decode b_R_hitsAtSize 1 = .ok (.ifCond .lt 11, 3) := by decide +kernel
theorem d_R_hitsAtSize_4 : decode b_R_hitsAtSize 4 = .ok (.iload_n 0, 1) := by decide +kernel
theorem d_R_hitsAtSize_5 : decode b_R_hitsAtSize 5 = .ok (.iconst 1, 1) := by decide +kernel
theorem d_R_hitsAtSize_6 : decode b_R_hitsAtSize 6 = .ok (.iadd, 1) := by decide +kernel
theorem d_R_hitsAtSize_7 : decode b_R_hitsAtSize 7 = .ok (.iconst 2, 1) := by decide +kernel
theorem d_R_hitsAtSize_8 : decode b_R_hitsAtSize 8 = .ok (.idiv, 1) := by decide +kernel
theorem d_R_hitsAtSize_9 : decode b_R_hitsAtSize 9 = .ok (.goto 7, 3) := by decide +kernel
theorem d_R_hitsAtSize_12 : decode b_R_hitsAtSize 12 = .ok (.iload_n 0, 1) := by decide +kernel
theorem d_R_hitsAtSize_13 : decode b_R_hitsAtSize 13 = .ok (.ineg, 1) := by decide +kernel
theorem d_R_hitsAtSize_14 : decode b_R_hitsAtSize 14 = .ok (.iconst 2, 1) := by decide +kernel
theorem d_R_hitsAtSize_15 : decode b_R_hitsAtSize 15 = .ok (.idiv, 1) := by decide +kernel
theorem d_R_hitsAtSize_16 : decode b_R_hitsAtSize 16 = .ok (.ireturn, 1) := by decide +kernel
theorem d_R_hitsOn_0 : decode b_R_hitsOn 0 = .ok (.iload_n 0, 1) := by decide +kernel
theorem d_R_hitsOn_1 : decode b_R_hitsOn 1 = .ok (.invokestatic 157, 3) := by decide +kernel
theorem d_R_hitsOn_4 : decode b_R_hitsOn 4 = .ok (.iload_n 0, 1) := by decide +kernel
theorem d_R_hitsOn_5 : decode b_R_hitsOn 5 = .ok (.invokestatic 164, 3) := by decide +kernel
theorem d_R_hitsOn_8 : decode b_R_hitsOn 8 = .ok (.iadd, 1) := by decide +kernel
theorem d_R_hitsOn_9 : decode b_R_hitsOn 9 = .ok (.ireturn, 1) := by decide +kernel
theorem d_R_hitsOf_0 : decode b_R_hitsOf 0 = .ok (.iload_n 0, 1) := by decide +kernel
theorem d_R_hitsOf_1 : decode b_R_hitsOf 1 = .ok (.invokestatic 167, 3) := by decide +kernel
theorem d_R_hitsOf_4 : decode b_R_hitsOf 4 = .ok (.iload_n 1, 1) := by decide +kernel
theorem d_R_hitsOf_5 : decode b_R_hitsOf 5 = .ok (.invokestatic 167, 3) := by decide +kernel
theorem d_R_hitsOf_8 : decode b_R_hitsOf 8 = .ok (.iadd, 1) := by decide +kernel
theorem d_R_hitsOf_9 : decode b_R_hitsOf 9 = .ok (.iload_n 2, 1) := by decide +kernel
theorem d_R_hitsOf_10 : decode b_R_hitsOf 10 = .ok (.invokestatic 167, 3) := by decide +kernel
theorem d_R_hitsOf_13 : decode b_R_hitsOf 13 = .ok (.iadd, 1) := by decide +kernel
theorem d_R_hitsOf_14 : decode b_R_hitsOf 14 = .ok (.ireturn, 1) := by decide +kernel
theorem d_R_loudnessOf_0 : decode b_R_loudnessOf 0 = .ok (.lconst 1, 1) := by decide +kernel
theorem d_R_loudnessOf_1 : decode b_R_loudnessOf 1 = .ok (.lload_n 2, 1) := by decide +kernel
theorem d_R_loudnessOf_2 : decode b_R_loudnessOf 2 = .ok (.ladd, 1) := by decide +kernel
theorem d_R_loudnessOf_3 : decode b_R_loudnessOf 3 = .ok (.lstore 4, 2) := by decide +kernel
theorem d_R_loudnessOf_5 : decode b_R_loudnessOf 5 = .ok (.lload 4, 2) := by decide +kernel
theorem d_R_loudnessOf_7 : decode b_R_loudnessOf 7 = .ok (.lconst 0, 1) := by decide +kernel
theorem d_R_loudnessOf_8 : decode b_R_loudnessOf 8 = .ok (.lcmp, 1) := by decide +kernel
theorem d_R_loudnessOf_9 : decode b_R_loudnessOf 9 = .ok (.ifCond .le 10, 3) := by decide +kernel
theorem d_R_loudnessOf_12 : decode b_R_loudnessOf 12 = .ok (.lload_n 0, 1) := by decide +kernel
theorem d_R_loudnessOf_13 : decode b_R_loudnessOf 13 = .ok (.lload 4, 2) := by decide +kernel
theorem d_R_loudnessOf_15 : decode b_R_loudnessOf 15 = .ok (.ldiv, 1) := by decide +kernel
theorem d_R_loudnessOf_16 : decode b_R_loudnessOf 16 = .ok (.goto 4, 3) := by decide +kernel
theorem d_R_loudnessOf_19 : decode b_R_loudnessOf 19 = .ok (.lconst 0, 1) := by decide +kernel
theorem d_R_loudnessOf_20 : decode b_R_loudnessOf 20 = .ok (.lreturn, 1) := by decide +kernel
theorem d_R_keyOf_0 : decode b_R_keyOf 0 = .ok (.lload_n 0, 1) := by decide +kernel
theorem d_R_keyOf_1 : decode b_R_keyOf 1 = .ok (.iload_n 2, 1) := by decide +kernel
theorem d_R_keyOf_2 : decode b_R_keyOf 2 = .ok (.invokestatic 170, 3) := by decide +kernel
theorem d_R_keyOf_5 : decode b_R_keyOf 5 = .ok (.lstore 5, 2) := by decide +kernel
theorem d_R_keyOf_7 : decode b_R_keyOf 7 = .ok (.lload 5, 2) := by decide +kernel
theorem d_R_keyOf_9 : decode b_R_keyOf 9 = .ok (.iload_n 3, 1) := by decide +kernel
theorem d_R_keyOf_10 : decode b_R_keyOf 10 = .ok (.invokestatic 170, 3) := by decide +kernel
theorem d_R_keyOf_13 : decode b_R_keyOf 13 = .ok (.lstore 5, 2) := by decide +kernel
theorem d_R_keyOf_15 : decode b_R_keyOf 15 = .ok (.lload 5, 2) := by decide +kernel
theorem d_R_keyOf_17 : decode b_R_keyOf 17 = .ok (.iload 4, 2) := by decide +kernel
theorem d_R_keyOf_19 : decode b_R_keyOf 19 = .ok (.invokestatic 170, 3) := by decide +kernel
theorem d_R_keyOf_22 : decode b_R_keyOf 22 = .ok (.lreturn, 1) := by decide +kernel
theorem d_R_withNumberBelow_0 : decode b_R_withNumberBelow 0 = .ok (.lload_n 0, 1) := by decide +kernel
theorem d_R_withNumberBelow_1 : decode b_R_withNumberBelow 1 = .ok (.bipush 7, 2) := by decide +kernel
theorem d_R_withNumberBelow_3 : decode b_R_withNumberBelow 3 = .ok (.lshl, 1) := by decide +kernel
theorem d_R_withNumberBelow_4 : decode b_R_withNumberBelow 4 = .ok (.iload_n 2, 1) := by decide +kernel
theorem d_R_withNumberBelow_5 : decode b_R_withNumberBelow 5 = .ok (.bipush 40, 2) := by decide +kernel
theorem d_R_withNumberBelow_7 : decode b_R_withNumberBelow 7 = .ok (.iadd, 1) := by decide +kernel
theorem d_R_withNumberBelow_8 : decode b_R_withNumberBelow 8 = .ok (.i2l, 1) := by decide +kernel
theorem d_R_withNumberBelow_9 : decode b_R_withNumberBelow 9 = .ok (.lor, 1) := by decide +kernel
theorem d_R_withNumberBelow_10 : decode b_R_withNumberBelow 10 = .ok (.lreturn, 1) := by decide +kernel
theorem d_R_lowestNumberIn_0 : decode b_R_lowestNumberIn 0 = .ok (.lload_n 0, 1) := by decide +kernel
theorem d_R_lowestNumberIn_1 : decode b_R_lowestNumberIn 1 = .ok (.ldc2_w 174, 3) := by decide +kernel
theorem d_R_lowestNumberIn_4 : decode b_R_lowestNumberIn 4 = .ok (.land, 1) := by decide +kernel
theorem d_R_lowestNumberIn_5 : decode b_R_lowestNumberIn 5 = .ok (.l2i, 1) := by decide +kernel
theorem d_R_lowestNumberIn_6 : decode b_R_lowestNumberIn 6 = .ok (.bipush 40, 2) := by decide +kernel
theorem d_R_lowestNumberIn_8 : decode b_R_lowestNumberIn 8 = .ok (.isub, 1) := by decide +kernel
theorem d_R_lowestNumberIn_9 : decode b_R_lowestNumberIn 9 = .ok (.ireturn, 1) := by decide +kernel
theorem d_R_distanceIn_0 : decode b_R_distanceIn 0 = .ok (.lload_n 0, 1) := by decide +kernel
theorem d_R_distanceIn_1 : decode b_R_distanceIn 1 = .ok (.bipush 21, 2) := by decide +kernel
theorem d_R_distanceIn_3 : decode b_R_distanceIn 3 = .ok (.lshr, 1) := by decide +kernel
theorem d_R_distanceIn_4 : decode b_R_distanceIn 4 = .ok (.lreturn, 1) := by decide +kernel
theorem d_R_firstNumberIn_0 : decode b_R_firstNumberIn 0 = .ok (.lload_n 0, 1) := by decide +kernel
theorem d_R_firstNumberIn_1 : decode b_R_firstNumberIn 1 = .ok (.bipush 14, 2) := by decide +kernel
theorem d_R_firstNumberIn_3 : decode b_R_firstNumberIn 3 = .ok (.lshr, 1) := by decide +kernel
theorem d_R_firstNumberIn_4 : decode b_R_firstNumberIn 4 = .ok (.invokestatic 176, 3) := by decide +kernel
theorem d_R_firstNumberIn_7 : decode b_R_firstNumberIn 7 = .ok (.ireturn, 1) := by decide +kernel
theorem d_R_secondNumberIn_0 : decode b_R_secondNumberIn 0 = .ok (.lload_n 0, 1) := by decide +kernel
theorem d_R_secondNumberIn_1 : decode b_R_secondNumberIn 1 = .ok (.bipush 7, 2) := by decide +kernel
theorem d_R_secondNumberIn_3 : decode b_R_secondNumberIn 3 = .ok (.lshr, 1) := by decide +kernel
theorem d_R_secondNumberIn_4 : decode b_R_secondNumberIn 4 = .ok (.invokestatic 176, 3) := by decide +kernel
theorem d_R_secondNumberIn_7 : decode b_R_secondNumberIn 7 = .ok (.ireturn, 1) := by decide +kernel
theorem d_R_thirdNumberIn_0 : decode b_R_thirdNumberIn 0 = .ok (.lload_n 0, 1) := by decide +kernel
theorem d_R_thirdNumberIn_1 : decode b_R_thirdNumberIn 1 = .ok (.invokestatic 176, 3) := by decide +kernel
theorem d_R_thirdNumberIn_4 : decode b_R_thirdNumberIn 4 = .ok (.ireturn, 1) := by decide +kernel
theorem d_R_forgetOrder_0 : decode b_R_forgetOrder 0 = .ok (.aload_n 0, 1) := by decide +kernel
theorem d_R_forgetOrder_1 : decode b_R_forgetOrder 1 = .ok (.iconst 0, 1) := by decide +kernel
theorem d_R_forgetOrder_2 : decode b_R_forgetOrder 2 = .ok (.putfield 179, 3) := by decide +kernel
theorem d_R_forgetOrder_5 : decode b_R_forgetOrder 5 = .ok (.aload_n 0, 1) := by decide +kernel
theorem d_R_forgetOrder_6 : decode b_R_forgetOrder 6 = .ok (.iconst 0, 1) := by decide +kernel
theorem d_R_forgetOrder_7 : decode b_R_forgetOrder 7 = .ok (.putfield 63, 3) := by decide +kernel
theorem d_R_forgetOrder_10 : decode b_R_forgetOrder 10 = .ok (.return_, 1) := by decide +kernel
theorem d_R_orderEchoes_0 : decode b_R_orderEchoes 0 = .ok (.aload_n 0, 1) := by decide +kernel
theorem d_R_orderEchoes_1 : decode b_R_orderEchoes 1 = .ok (.getfield 179, 3) := by decide +kernel
theorem d_R_orderEchoes_4 : decode b_R_orderEchoes 4 = .ok (.ifCond .eq 4, 3) := by decide +kernel
theorem d_R_orderEchoes_7 : decode b_R_orderEchoes 7 = .ok (.return_, 1) := by decide +kernel
theorem d_R_orderEchoes_8 : decode b_R_orderEchoes 8 = .ok (.aload_n 0, 1) := by decide +kernel
theorem d_R_orderEchoes_9 : decode b_R_orderEchoes 9 = .ok (.getfield 36, 3) := by decide +kernel
theorem d_R_orderEchoes_12 : decode b_R_orderEchoes 12 = .ok (.invokevirtual 182, 3) := by decide +kernel
theorem d_R_orderEchoes_15 : decode b_R_orderEchoes 15 = .ok (.aload_n 0, 1) := by decide +kernel
theorem d_R_orderEchoes_16 : decode b_R_orderEchoes 16 = .ok (.getfield 40, 3) := by decide +kernel
theorem d_R_orderEchoes_19 : decode b_R_orderEchoes 19 = .ok (.invokevirtual 182, 3) := by decide +kernel
theorem d_R_orderEchoes_22 : decode b_R_orderEchoes 22 = .ok (.aload_n 0, 1) := by decide +kernel
theorem d_R_orderEchoes_23 : decode b_R_orderEchoes 23 = .ok (.getfield 43, 3) := by decide +kernel
theorem d_R_orderEchoes_26 : decode b_R_orderEchoes 26 = .ok (.invokevirtual 182, 3) := by decide +kernel
theorem d_R_orderEchoes_29 : decode b_R_orderEchoes 29 = .ok (.aload_n 0, 1) := by decide +kernel
theorem d_R_orderEchoes_30 : decode b_R_orderEchoes 30 = .ok (.getfield 16, 3) := by decide +kernel
theorem d_R_orderEchoes_33 : decode b_R_orderEchoes 33 = .ok (.invokevirtual 185, 3) := by decide +kernel
theorem d_R_orderEchoes_36 : decode b_R_orderEchoes 36 = .ok (.aload_n 0, 1) := by decide +kernel
theorem d_R_orderEchoes_37 : decode b_R_orderEchoes 37 = .ok (.iconst 0, 1) := by decide +kernel
theorem d_R_orderEchoes_38 : decode b_R_orderEchoes 38 = .ok (.iconst 0, 1) := by decide +kernel
theorem d_R_orderEchoes_39 : decode b_R_orderEchoes 39 = .ok (.iconst 0, 1) := by decide +kernel
theorem d_R_orderEchoes_40 : decode b_R_orderEchoes 40 = .ok (.invokevirtual 188, 3) := by decide +kernel
theorem d_R_orderEchoes_43 : decode b_R_orderEchoes 43 = .ok (.iconst 0, 1) := by decide +kernel
