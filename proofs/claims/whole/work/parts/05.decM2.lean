theorem d_M_distance_7 : decode b_M_distance 7 = .ok (.iconst 1, 1) := by decide +kernel
theorem d_M_distance_8 : decode b_M_distance 8 = .ok (.iload_n 2, 1) := by decide +kernel
theorem d_M_distance_9 : decode b_M_distance 9 = .ok (.invokevirtual 61, 3) := by decide +kernel
theorem d_M_distance_12 : decode b_M_distance 12 = .ok (.ladd, 1) := by decide +kernel
theorem d_M_distance_13 : decode b_M_distance 13 = .ok (.aload_n 0, 1) := by decide +kernel
theorem d_M_distance_14 : decode b_M_distance 14 = .ok (.iconst 2, 1) := by decide +kernel
theorem d_M_distance_15 : decode b_M_distance 15 = .ok (.iload_n 3, 1) := by decide +kernel
theorem d_M_distance_16 : decode b_M_distance 16 = .ok (.invokevirtual 61, 3) := by decide +kernel
theorem d_M_distance_19 : decode b_M_distance 19 = .ok (.ladd, 1) := by decide +kernel
theorem d_M_distance_20 : decode b_M_distance 20 = .ok (.lreturn, 1) := by decide +kernel
theorem d_M_kept_0 : decode b_M_kept 0 = .ok (.lload_n 1, 1) := by decide +kernel
theorem d_M_kept_1 : decode b_M_kept 1 = .ok (.lstore 5, 2) := by decide +kernel
theorem d_M_kept_3 : decode b_M_kept 3 = .ok (.iconst 0, 1) := by decide +kernel
theorem d_M_kept_4 : decode b_M_kept 4 = .ok (.istore 7, 2) := by decide +kernel
theorem d_M_kept_6 : decode b_M_kept 6 = .ok (.iload 7, 2) := by decide +kernel
theorem d_M_kept_8 : decode b_M_kept 8 = .ok (.iload 4, 2) := by decide +kernel
theorem d_M_kept_10 : decode b_M_kept 10 = .ok (.if_icmp .ge 25, 3) := by decide +kernel
theorem d_M_kept_13 : decode b_M_kept 13 = .ok (.lload 5, 2) := by decide +kernel
theorem d_M_kept_15 : decode b_M_kept 15 = .ok (.aload_n 0, 1) := by decide +kernel
theorem d_M_kept_16 : decode b_M_kept 16 = .ok (.getfield 19, 3) := by decide +kernel
theorem d_M_kept_19 : decode b_M_kept 19 = .ok (.iload_n 3, 1) := by decide +kernel
theorem d_M_kept_20 : decode b_M_kept 20 = .ok (.iaload, 1) := by decide +kernel
theorem d_M_kept_21 : decode b_M_kept 21 = .ok (.i2l, 1) := by decide +kernel
theorem d_M_kept_22 : decode b_M_kept 22 = .ok (.lmul, 1) := by decide +kernel
theorem d_M_kept_23 : decode b_M_kept 23 = .ok (.ldc2_w 59, 3) := by decide +kernel
theorem d_M_kept_26 : decode b_M_kept 26 = .ok (.ldiv, 1) := by decide +kernel
theorem d_M_kept_27 : decode b_M_kept 27 = .ok (.lstore 5, 2) := by decide +kernel
theorem d_M_kept_29 : decode b_M_kept 29 = .ok (.iinc 7 1, 3) := by decide +kernel
theorem d_M_kept_32 : decode b_M_kept 32 = .ok (.goto (-26), 3) := by decide +kernel
theorem d_M_kept_35 : decode b_M_kept 35 = .ok (.lload 5, 2) := by decide +kernel
theorem d_M_kept_37 : decode b_M_kept 37 = .ok (.lreturn, 1) := by decide +kernel
theorem d_M_strength_0 : decode b_M_strength 0 = .ok (.ldc2_w 65, 3) := by decide +kernel
theorem d_M_strength_3 : decode b_M_strength 3 = .ok (.lstore 4, 2) := by decide +kernel
theorem d_M_strength_5 : decode b_M_strength 5 = .ok (.aload_n 0, 1) := by decide +kernel
theorem d_M_strength_6 : decode b_M_strength 6 = .ok (.lload 4, 2) := by decide +kernel
theorem d_M_strength_8 : decode b_M_strength 8 = .ok (.iconst 0, 1) := by decide +kernel
theorem d_M_strength_9 : decode b_M_strength 9 = .ok (.iload_n 1, 1) := by decide +kernel
theorem d_M_strength_10 : decode b_M_strength 10 = .ok (.invokestatic 67, 3) := by decide +kernel
theorem d_M_strength_13 : decode b_M_strength 13 = .ok (.invokevirtual 71, 3) := by decide +kernel
theorem d_M_strength_16 : decode b_M_strength 16 = .ok (.lstore 4, 2) := by decide +kernel
theorem d_M_strength_18 : decode b_M_strength 18 = .ok (.aload_n 0, 1) := by decide +kernel
theorem d_M_strength_19 : decode b_M_strength 19 = .ok (.lload 4, 2) := by decide +kernel
theorem d_M_strength_21 : decode b_M_strength 21 = .ok (.iconst 1, 1) := by decide +kernel
theorem d_M_strength_22 : decode b_M_strength 22 = .ok (.iload_n 1, 1) := by decide +kernel
theorem d_M_strength_23 : decode b_M_strength 23 = .ok (.invokestatic 75, 3) := by decide +kernel
theorem d_M_strength_26 : decode b_M_strength 26 = .ok (.invokevirtual 71, 3) := by decide +kernel
theorem d_M_strength_29 : decode b_M_strength 29 = .ok (.lstore 4, 2) := by decide +kernel
theorem d_M_strength_31 : decode b_M_strength 31 = .ok (.aload_n 0, 1) := by decide +kernel
theorem d_M_strength_32 : decode b_M_strength 32 = .ok (.lload 4, 2) := by decide +kernel
theorem d_M_strength_34 : decode b_M_strength 34 = .ok (.iconst 2, 1) := by decide +kernel
theorem d_M_strength_35 : decode b_M_strength 35 = .ok (.iload_n 2, 1) := by decide +kernel
theorem d_M_strength_36 : decode b_M_strength 36 = .ok (.invokestatic 67, 3) := by decide +kernel
theorem d_M_strength_39 : decode b_M_strength 39 = .ok (.invokevirtual 71, 3) := by decide +kernel
theorem d_M_strength_42 : decode b_M_strength 42 = .ok (.lstore 4, 2) := by decide +kernel
theorem d_M_strength_44 : decode b_M_strength 44 = .ok (.aload_n 0, 1) := by decide +kernel
theorem d_M_strength_45 : decode b_M_strength 45 = .ok (.lload 4, 2) := by decide +kernel
theorem d_M_strength_47 : decode b_M_strength 47 = .ok (.iconst 3, 1) := by decide +kernel
theorem d_M_strength_48 : decode b_M_strength 48 = .ok (.iload_n 2, 1) := by decide +kernel
theorem d_M_strength_49 : decode b_M_strength 49 = .ok (.invokestatic 75, 3) := by decide +kernel
theorem d_M_strength_52 : decode b_M_strength 52 = .ok (.invokevirtual 71, 3) := by decide +kernel
theorem d_M_strength_55 : decode b_M_strength 55 = .ok (.lstore 4, 2) := by decide +kernel
theorem d_M_strength_57 : decode b_M_strength 57 = .ok (.aload_n 0, 1) := by decide +kernel
theorem d_M_strength_58 : decode b_M_strength 58 = .ok (.lload 4, 2) := by decide +kernel
theorem d_M_strength_60 : decode b_M_strength 60 = .ok (.iconst 4, 1) := by decide +kernel
theorem d_M_strength_61 : decode b_M_strength 61 = .ok (.iload_n 3, 1) := by decide +kernel
theorem d_M_strength_62 : decode b_M_strength 62 = .ok (.invokestatic 67, 3) := by decide +kernel
theorem d_M_strength_65 : decode b_M_strength 65 = .ok (.invokevirtual 71, 3) := by decide +kernel
theorem d_M_strength_68 : decode b_M_strength 68 = .ok (.lstore 4, 2) := by decide +kernel
theorem d_M_strength_70 : decode b_M_strength 70 = .ok (.aload_n 0, 1) := by decide +kernel
theorem d_M_strength_71 : decode b_M_strength 71 = .ok (.lload 4, 2) := by decide +kernel
theorem d_M_strength_73 : decode b_M_strength 73 = .ok (.iconst 5, 1) := by decide +kernel
theorem d_M_strength_74 : decode b_M_strength 74 = .ok (.iload_n 3, 1) := by decide +kernel
theorem d_M_strength_75 : decode b_M_strength 75 = .ok (.invokestatic 75, 3) := by decide +kernel
theorem d_M_strength_78 : decode b_M_strength 78 = .ok (.invokevirtual 71, 3) := by decide +kernel
theorem d_M_strength_81 : decode b_M_strength 81 = .ok (.lreturn, 1) := by decide +kernel
theorem d_M_hits_0 : decode b_M_hits 0 = .ok (.iload_n 0, 1) := by decide +kernel
theorem d_M_hits_1 : decode b_M_hits 1 = .ok (.invokestatic 67, 3) := by decide +kernel
theorem d_M_hits_4 : decode b_M_hits 4 = .ok (.iload_n 0, 1) := by decide +kernel
theorem d_M_hits_5 : decode b_M_hits 5 = .ok (.invokestatic 75, 3) := by decide +kernel
theorem d_M_hits_8 : decode b_M_hits 8 = .ok (.iadd, 1) := by decide +kernel
theorem d_M_hits_9 : decode b_M_hits 9 = .ok (.ireturn, 1) := by decide +kernel
theorem d_M_told_0 : decode b_M_told 0 = .ok (.iload 4, 2) := by decide +kernel
theorem d_M_told_2 : decode b_M_told 2 = .ok (.tableswitch 60 0 2 #[26, 34, 42], 26) := by decide +kernel
theorem d_M_told_28 : decode b_M_told 28 = .ok (.aload_n 0, 1) := by decide +kernel
theorem d_M_told_29 : decode b_M_told 29 = .ok (.iload_n 1, 1) := by decide +kernel
theorem d_M_told_30 : decode b_M_told 30 = .ok (.iload_n 2, 1) := by decide +kernel
theorem d_M_told_31 : decode b_M_told 31 = .ok (.iload_n 3, 1) := by decide +kernel
theorem d_M_told_32 : decode b_M_told 32 = .ok (.invokevirtual 78, 3) := by decide +kernel
theorem d_M_told_35 : decode b_M_told 35 = .ok (.lreturn, 1) := by decide +kernel
theorem d_M_told_36 : decode b_M_told 36 = .ok (.aload_n 0, 1) := by decide +kernel
theorem d_M_told_37 : decode b_M_told 37 = .ok (.iload_n 1, 1) := by decide +kernel
theorem d_M_told_38 : decode b_M_told 38 = .ok (.iload_n 2, 1) := by decide +kernel
theorem d_M_told_39 : decode b_M_told 39 = .ok (.iload_n 3, 1) := by decide +kernel
theorem d_M_told_40 : decode b_M_told 40 = .ok (.invokevirtual 82, 3) := by decide +kernel
theorem d_M_told_43 : decode b_M_told 43 = .ok (.lreturn, 1) := by decide +kernel
theorem d_M_told_44 : decode b_M_told 44 = .ok (.aload_n 0, 1) := by decide +kernel
theorem d_M_told_45 : decode b_M_told 45 = .ok (.iload_n 1, 1) := by decide +kernel
theorem d_M_told_46 : decode b_M_told 46 = .ok (.iload_n 2, 1) := by decide +kernel
theorem d_M_told_47 : decode b_M_told 47 = .ok (.iload_n 3, 1) := by decide +kernel
theorem d_M_told_48 : decode b_M_told 48 = .ok (.invokevirtual 82, 3) := by decide +kernel
theorem d_M_told_51 : decode b_M_told 51 = .ok (.lconst 1, 1) := by decide +kernel
theorem d_M_told_52 : decode b_M_told 52 = .ok (.aload_n 0, 1) := by decide +kernel
theorem d_M_told_53 : decode b_M_told 53 = .ok (.iload_n 1, 1) := by decide +kernel
theorem d_M_told_54 : decode b_M_told 54 = .ok (.iload_n 2, 1) := by decide +kernel
theorem d_M_told_55 : decode b_M_told 55 = .ok (.iload_n 3, 1) := by decide +kernel
theorem d_M_told_56 : decode b_M_told 56 = .ok (.invokevirtual 78, 3) := by decide +kernel
theorem d_M_told_59 : decode b_M_told 59 = .ok (.ladd, 1) := by decide +kernel
theorem d_M_told_60 : decode b_M_told 60 = .ok (.ldiv, 1) := by decide +kernel
theorem d_M_told_61 : decode b_M_told 61 = .ok (.lreturn, 1) := by decide +kernel
theorem d_M_told_62 : decode b_M_told 62 = .ok (.iload_n 1, 1) := by decide +kernel
theorem d_M_told_63 : decode b_M_told 63 = .ok (.invokestatic 85, 3) := by decide +kernel
theorem d_M_told_66 : decode b_M_told 66 = .ok (.iload_n 2, 1) := by decide +kernel
theorem d_M_told_67 : decode b_M_told 67 = .ok (.invokestatic 85, 3) := by decide +kernel
theorem d_M_told_70 : decode b_M_told 70 = .ok (.iadd, 1) := by decide +kernel
theorem d_M_told_71 : decode b_M_told 71 = .ok (.iload_n 3, 1) := by decide +kernel
theorem d_M_told_72 : decode b_M_told 72 = .ok (.invokestatic 85, 3) := by decide +kernel
theorem d_M_told_75 : decode b_M_told 75 = .ok (.iadd, 1) := by decide +kernel
theorem d_M_told_76 : decode b_M_told 76 = .ok (.i2l, 1) := by decide +kernel
theorem d_M_told_77 : decode b_M_told 77 = .ok (.lreturn, 1) := by decide +kernel
theorem d_M_isImage_0 : decode b_M_isImage 0 = .ok (.iload_n 0, 1) := by decide +kernel
theorem d_M_isImage_1 : decode b_M_isImage 1 = .ok (.i2l, 1) := by decide +kernel
theorem d_M_isImage_2 : decode b_M_isImage 2 = .ok (.ldc2_w 88, 3) := by decide +kernel
theorem d_M_isImage_5 : decode b_M_isImage 5 = .ok (.ldc2_w 90, 3) := by decide +kernel
theorem d_M_isImage_8 : decode b_M_isImage 8 = .ok (.invokestatic 45, 3) := by decide +kernel
theorem d_M_isImage_11 : decode b_M_isImage 11 = .ok (.ifCond .eq 35, 3) := by decide +kernel
theorem d_M_isImage_14 : decode b_M_isImage 14 = .ok (.iload_n 1, 1) := by decide +kernel
theorem d_M_isImage_15 : decode b_M_isImage 15 = .ok (.i2l, 1) := by decide +kernel
theorem d_M_isImage_16 : decode b_M_isImage 16 = .ok (.ldc2_w 88, 3) := by decide +kernel
theorem d_M_isImage_19 : decode b_M_isImage 19 = .ok (.ldc2_w 90, 3) := by decide +kernel
theorem d_M_isImage_22 : decode b_M_isImage 22 = .ok (.invokestatic 45, 3) := by decide +kernel
theorem d_M_isImage_25 : decode b_M_isImage 25 = .ok (.ifCond .eq 21, 3) := by decide +kernel
theorem d_M_isImage_28 : decode b_M_isImage 28 = .ok (.iload_n 2, 1) := by decide +kernel
theorem d_M_isImage_29 : decode b_M_isImage 29 = .ok (.i2l, 1) := by decide +kernel
theorem d_M_isImage_30 : decode b_M_isImage 30 = .ok (.ldc2_w 88, 3) := by decide +kernel
theorem d_M_isImage_33 : decode b_M_isImage 33 = .ok (.ldc2_w 90, 3) := by decide +kernel
theorem d_M_isImage_36 : decode b_M_isImage 36 = .ok (.invokestatic 45, 3) := by decide +kernel
theorem d_M_isImage_39 : decode b_M_isImage 39 = .ok (.ifCond .eq 7, 3) := by decide +kernel
theorem d_M_isImage_42 : decode b_M_isImage 42 = .ok (.iconst 1, 1) := by decide +kernel
theorem d_M_isImage_43 : decode b_M_isImage 43 = .ok (.goto 4, 3) := by decide +kernel
theorem d_M_isImage_46 : decode b_M_isImage 46 = .ok (.iconst 0, 1) := by decide +kernel
theorem d_M_isImage_47 : decode b_M_isImage 47 = .ok (.ireturn, 1) := by decide +kernel
theorem d_M_image_0 : decode b_M_image 0 = .ok (.aload_n 0, 1) := by decide +kernel
theorem d_M_image_1 : decode b_M_image 1 = .ok (.iload_n 1, 1) := by decide +kernel
theorem d_M_image_2 : decode b_M_image 2 = .ok (.iload_n 2, 1) := by decide +kernel
theorem d_M_image_3 : decode b_M_image 3 = .ok (.iload_n 3, 1) := by decide +kernel
theorem d_M_image_4 : decode b_M_image 4 = .ok (.invokestatic 92, 3) := by decide +kernel
theorem d_M_image_7 : decode b_M_image 7 = .ok (.ifCond .eq 20, 3) := by decide +kernel
theorem d_M_image_10 : decode b_M_image 10 = .ok (.iload 4, 2) := by decide +kernel
theorem d_M_image_12 : decode b_M_image 12 = .ok (.i2l, 1) := by decide +kernel
theorem d_M_image_13 : decode b_M_image 13 = .ok (.lconst 0, 1) := by decide +kernel
theorem d_M_image_14 : decode b_M_image 14 = .ok (.ldc2_w 95, 3) := by decide +kernel
theorem d_M_image_17 : decode b_M_image 17 = .ok (.invokestatic 45, 3) := by decide +kernel
theorem d_M_image_20 : decode b_M_image 20 = .ok (.ifCond .eq 7, 3) := by decide +kernel
theorem d_M_image_23 : decode b_M_image 23 = .ok (.iconst 0, 1) := by decide +kernel
theorem d_M_image_24 : decode b_M_image 24 = .ok (.goto 4, 3) := by decide +kernel
theorem d_M_image_27 : decode b_M_image 27 = .ok (.iconst 1, 1) := by decide +kernel
theorem d_M_image_28 : decode b_M_image 28 = .ok (.putfield 41, 3) := by decide +kernel
theorem d_M_image_31 : decode b_M_image 31 = .ok (.aload_n 0, 1) := by decide +kernel
theorem d_M_image_32 : decode b_M_image 32 = .ok (.getfield 41, 3) := by decide +kernel
theorem d_M_image_35 : decode b_M_image 35 = .ok (.ifCond .le 7, 3) := by decide +kernel
theorem d_M_image_38 : decode b_M_image 38 = .ok (.lconst 0, 1) := by decide +kernel
theorem d_M_image_39 : decode b_M_image 39 = .ok (.goto 12, 3) := by decide +kernel
theorem d_M_image_42 : decode b_M_image 42 = .ok (.aload_n 0, 1) := by decide +kernel
theorem d_M_image_43 : decode b_M_image 43 = .ok (.iload_n 1, 1) := by decide +kernel
theorem d_M_image_44 : decode b_M_image 44 = .ok (.iload_n 2, 1) := by decide +kernel
theorem d_M_image_45 : decode b_M_image 45 = .ok (.iload_n 3, 1) := by decide +kernel
theorem d_M_image_46 : decode b_M_image 46 = .ok (.iload 4, 2) := by decide +kernel
theorem d_M_image_48 : decode b_M_image 48 = .ok (.invokevirtual 97, 3) := by decide +kernel
theorem d_M_image_51 : decode b_M_image 51 = .ok (.lreturn, 1) := by decide +kernel
theorem d_M_prepare_0 : decode b_M_prepare 0 = .ok (.iconst 0, 1) := by decide +kernel
theorem d_M_prepare_1 : decode b_M_prepare 1 = .ok (.istore_n 1, 1) := by decide +kernel
theorem d_M_prepare_2 : decode b_M_prepare 2 = .ok (.iload_n 1, 1) := by decide +kernel
theorem d_M_prepare_3 : decode b_M_prepare 3 = .ok (.iconst 3, 1) := by decide +kernel
theorem d_M_prepare_4 : decode b_M_prepare 4 = .ok (.if_icmp .ge 117, 3) := by decide +kernel
theorem d_M_prepare_7 : decode b_M_prepare 7 = .ok (.iconst 0, 1) := by decide +kernel
theorem d_M_prepare_8 : decode b_M_prepare 8 = .ok (.istore_n 2, 1) := by decide +kernel
theorem d_M_prepare_9 : decode b_M_prepare 9 = .ok (.iload_n 2, 1) := by decide +kernel
theorem d_M_prepare_10 : decode b_M_prepare 10 = .ok (.bipush 81, 2) := by decide +kernel
theorem d_M_prepare_12 : decode b_M_prepare 12 = .ok (.if_icmp .ge 103, 3) := by decide +kernel
theorem d_M_prepare_15 : decode b_M_prepare 15 = .ok (.aload_n 0, 1) := by decide +kernel
theorem d_M_prepare_16 : decode b_M_prepare 16 = .ok (.iload_n 1, 1) := by decide +kernel
theorem d_M_prepare_17 : decode b_M_prepare 17 = .ok (.iload_n 2, 1) := by decide +kernel
theorem d_M_prepare_18 : decode b_M_prepare 18 = .ok (.bipush 40, 2) := by decide +kernel
theorem d_M_prepare_20 : decode b_M_prepare 20 = .ok (.isub, 1) := by decide +kernel
theorem d_M_prepare_21 : decode b_M_prepare 21 = .ok (.invokevirtual 61, 3) := by decide +kernel
theorem d_M_prepare_24 : decode b_M_prepare 24 = .ok (.lstore_n 3, 1) := by decide +kernel
theorem d_M_prepare_25 : decode b_M_prepare 25 = .ok (.aload_n 0, 1) := by decide +kernel
theorem d_M_prepare_26 : decode b_M_prepare 26 = .ok (.getfield 22, 3) := by decide +kernel
theorem d_M_prepare_29 : decode b_M_prepare 29 = .ok (.bipush 81, 2) := by decide +kernel
theorem d_M_prepare_31 : decode b_M_prepare 31 = .ok (.iload_n 1, 1) := by decide +kernel
theorem d_M_prepare_32 : decode b_M_prepare 32 = .ok (.imul, 1) := by decide +kernel
theorem d_M_prepare_33 : decode b_M_prepare 33 = .ok (.iload_n 2, 1) := by decide +kernel
theorem d_M_prepare_34 : decode b_M_prepare 34 = .ok (.iadd, 1) := by decide +kernel
theorem d_M_prepare_35 : decode b_M_prepare 35 = .ok (.lload_n 3, 1) := by decide +kernel
theorem d_M_prepare_36 : decode b_M_prepare 36 = .ok (.lastore, 1) := by decide +kernel
theorem d_M_prepare_37 : decode b_M_prepare 37 = .ok (.iload_n 2, 1) := by decide +kernel
theorem d_M_prepare_38 : decode b_M_prepare 38 = .ok (.istore 5, 2) := by decide +kernel
theorem d_M_prepare_40 : decode b_M_prepare 40 = .ok (.iload 5, 2) := by decide +kernel
theorem d_M_prepare_42 : decode b_M_prepare 42 = .ok (.ifCond .le 54, 3) := by decide +kernel
theorem d_M_prepare_45 : decode b_M_prepare 45 = .ok (.aload_n 0, 1) := by decide +kernel
theorem d_M_prepare_46 : decode b_M_prepare 46 = .ok (.getfield 26, 3) := by decide +kernel
theorem d_M_prepare_49 : decode b_M_prepare 49 = .ok (.bipush 81, 2) := by decide +kernel
theorem d_M_prepare_51 : decode b_M_prepare 51 = .ok (.iload_n 1, 1) := by decide +kernel
theorem d_M_prepare_52 : decode b_M_prepare 52 = .ok (.imul, 1) := by decide +kernel
theorem d_M_prepare_53 : decode b_M_prepare 53 = .ok (.iload 5, 2) := by decide +kernel
theorem d_M_prepare_55 : decode b_M_prepare 55 = .ok (.iadd, 1) := by decide +kernel
theorem d_M_prepare_56 : decode b_M_prepare 56 = .ok (.iconst 1, 1) := by decide +kernel
theorem d_M_prepare_57 : decode b_M_prepare 57 = .ok (.isub, 1) := by decide +kernel
theorem d_M_prepare_58 : decode b_M_prepare 58 = .ok (.laload, 1) := by decide +kernel
theorem d_M_prepare_59 : decode b_M_prepare 59 = .ok (.lload_n 3, 1) := by decide +kernel
theorem d_M_prepare_60 : decode b_M_prepare 60 = .ok (.lcmp, 1) := by decide +kernel
theorem d_M_prepare_61 : decode b_M_prepare 61 = .ok (.ifCond .le 35, 3) := by decide +kernel
theorem d_M_prepare_64 : decode b_M_prepare 64 = .ok (.aload_n 0, 1) := by decide +kernel
theorem d_M_prepare_65 : decode b_M_prepare 65 = .ok (.getfield 26, 3) := by decide +kernel
theorem d_M_prepare_68 : decode b_M_prepare 68 = .ok (.bipush 81, 2) := by decide +kernel
theorem d_M_prepare_70 : decode b_M_prepare 70 = .ok (.iload_n 1, 1) := by decide +kernel
theorem d_M_prepare_71 : decode b_M_prepare 71 = .ok (.imul, 1) := by decide +kernel
theorem d_M_prepare_72 : decode b_M_prepare 72 = .ok (.iload 5, 2) := by decide +kernel
theorem d_M_prepare_74 : decode b_M_prepare 74 = .ok (.iadd, 1) := by decide +kernel
theorem d_M_prepare_75 : decode b_M_prepare 75 = .ok (.aload_n 0, 1) := by decide +kernel
theorem d_M_prepare_76 : decode b_M_prepare 76 = .ok (.getfield 26, 3) := by decide +kernel
theorem d_M_prepare_79 : decode b_M_prepare 79 = .ok (.bipush 81, 2) := by decide +kernel
theorem d_M_prepare_81 : decode b_M_prepare 81 = .ok (.iload_n 1, 1) := by decide +kernel
theorem d_M_prepare_82 : decode b_M_prepare 82 = .ok (.imul, 1) := by decide +kernel
theorem d_M_prepare_83 : decode b_M_prepare 83 = .ok (.iload 5, 2) := by decide +kernel
theorem d_M_prepare_85 : decode b_M_prepare 85 = .ok (.iadd, 1) := by decide +kernel
theorem d_M_prepare_86 : decode b_M_prepare 86 = .ok (.iconst 1, 1) := by decide +kernel
theorem d_M_prepare_87 : decode b_M_prepare 87 = .ok (.isub, 1) := by decide +kernel
theorem d_M_prepare_88 : decode b_M_prepare 88 = .ok (.laload, 1) := by decide +kernel
theorem d_M_prepare_89 : decode b_M_prepare 89 = .ok (.lastore, 1) := by decide +kernel
theorem d_M_prepare_90 : decode b_M_prepare 90 = .ok (.iinc 5 (-1), 3) := by decide +kernel
theorem d_M_prepare_93 : decode b_M_prepare 93 = .ok (.goto (-53), 3) := by decide +kernel
theorem d_M_prepare_96 : decode b_M_prepare 96 = .ok (.aload_n 0, 1) := by decide +kernel
theorem d_M_prepare_97 : decode b_M_prepare 97 = .ok (.getfield 26, 3) := by decide +kernel
theorem d_M_prepare_100 : decode b_M_prepare 100 = .ok (.bipush 81, 2) := by decide +kernel
theorem d_M_prepare_102 : decode b_M_prepare 102 = .ok (.iload_n 1, 1) := by decide +kernel
theorem d_M_prepare_103 : decode b_M_prepare 103 = .ok (.imul, 1) := by decide +kernel
theorem d_M_prepare_104 : decode b_M_prepare 104 = .ok (.iload 5, 2) := by decide +kernel
theorem d_M_prepare_106 : decode b_M_prepare 106 = .ok (.iadd, 1) := by decide +kernel
theorem d_M_prepare_107 : decode b_M_prepare 107 = .ok (.lload_n 3, 1) := by decide +kernel
theorem d_M_prepare_108 : decode b_M_prepare 108 = .ok (.lastore, 1) := by decide +kernel
theorem d_M_prepare_109 : decode b_M_prepare 109 = .ok (.iinc 2 1, 3) := by decide +kernel
theorem d_M_prepare_112 : decode b_M_prepare 112 = .ok (.goto (-103), 3) := by decide +kernel
theorem d_M_prepare_115 : decode b_M_prepare 115 = .ok (.iinc 1 1, 3) := by decide +kernel
theorem d_M_prepare_118 : decode b_M_prepare 118 = .ok (.goto (-116), 3) := by decide +kernel
theorem d_M_prepare_121 : decode b_M_prepare 121 = .ok (.return_, 1) := by decide +kernel
theorem d_M_isEnough_0 : decode b_M_isEnough 0 = .ok (.iconst 0, 1) := by decide +kernel
theorem d_M_isEnough_1 : decode b_M_isEnough 1 = .ok (.istore_n 3, 1) := by decide +kernel
theorem d_M_isEnough_2 : decode b_M_isEnough 2 = .ok (.iconst 0, 1) := by decide +kernel
theorem d_M_isEnough_3 : decode b_M_isEnough 3 = .ok (.istore 4, 2) := by decide +kernel
theorem d_M_isEnough_5 : decode b_M_isEnough 5 = .ok (.iload 4, 2) := by decide +kernel
theorem d_M_isEnough_7 : decode b_M_isEnough 7 = .ok (.bipush 81, 2) := by decide +kernel
theorem d_M_isEnough_9 : decode b_M_isEnough 9 = .ok (.if_icmp .ge 104, 3) := by decide +kernel
theorem d_M_isEnough_12 : decode b_M_isEnough 12 = .ok (.iload_n 3, 1) := by decide +kernel
theorem d_M_isEnough_13 : decode b_M_isEnough 13 = .ok (.sipush 500, 3) := by decide +kernel
theorem d_M_isEnough_16 : decode b_M_isEnough 16 = .ok (.if_icmp .ge 97, 3) := by decide +kernel
theorem d_M_isEnough_19 : decode b_M_isEnough 19 = .ok (.iconst 0, 1) := by decide +kernel
theorem d_M_isEnough_20 : decode b_M_isEnough 20 = .ok (.istore 5, 2) := by decide +kernel
theorem d_M_isEnough_22 : decode b_M_isEnough 22 = .ok (.iload 5, 2) := by decide +kernel
theorem d_M_isEnough_24 : decode b_M_isEnough 24 = .ok (.bipush 81, 2) := by decide +kernel
theorem d_M_isEnough_26 : decode b_M_isEnough 26 = .ok (.if_icmp .ge 81, 3) := by decide +kernel
theorem d_M_isEnough_29 : decode b_M_isEnough 29 = .ok (.iload_n 3, 1) := by decide +kernel
theorem d_M_isEnough_30 : decode b_M_isEnough 30 = .ok (.sipush 500, 3) := by decide +kernel
theorem d_M_isEnough_33 : decode b_M_isEnough 33 = .ok (.if_icmp .ge 74, 3) := by decide +kernel
theorem d_M_isEnough_36 : decode b_M_isEnough 36 = .ok (.lload_n 1, 1) := by decide +kernel
theorem d_M_isEnough_37 : decode b_M_isEnough 37 = .ok (.aload_n 0, 1) := by decide +kernel
theorem d_M_isEnough_38 : decode b_M_isEnough 38 = .ok (.getfield 26, 3) := by decide +kernel
theorem d_M_isEnough_41 : decode b_M_isEnough 41 = .ok (.iload 4, 2) := by decide +kernel
theorem d_M_isEnough_43 : decode b_M_isEnough 43 = .ok (.laload, 1) := by decide +kernel
theorem d_M_isEnough_44 : decode b_M_isEnough 44 = .ok (.lsub, 1) := by decide +kernel
theorem d_M_isEnough_45 : decode b_M_isEnough 45 = .ok (.aload_n 0, 1) := by decide +kernel
theorem d_M_isEnough_46 : decode b_M_isEnough 46 = .ok (.getfield 26, 3) := by decide +kernel
theorem d_M_isEnough_49 : decode b_M_isEnough 49 = .ok (.bipush 81, 2) := by decide +kernel
theorem d_M_isEnough_51 : decode b_M_isEnough 51 = .ok (.iload 5, 2) := by decide +kernel
theorem d_M_isEnough_53 : decode b_M_isEnough 53 = .ok (.iadd, 1) := by decide +kernel
theorem d_M_isEnough_54 : decode b_M_isEnough 54 = .ok (.laload, 1) := by decide +kernel
theorem d_M_isEnough_55 : decode b_M_isEnough 55 = .ok (.lsub, 1) := by decide +kernel
theorem d_M_isEnough_56 : decode b_M_isEnough 56 = .ok (.lstore 6, 2) := by decide +kernel
theorem d_M_isEnough_58 : decode b_M_isEnough 58 = .ok (.iconst 0, 1) := by decide +kernel
theorem d_M_isEnough_59 : decode b_M_isEnough 59 = .ok (.istore 8, 2) := by decide +kernel
theorem d_M_isEnough_61 : decode b_M_isEnough 61 = .ok (.iload 8, 2) := by decide +kernel
theorem d_M_isEnough_63 : decode b_M_isEnough 63 = .ok (.bipush 81, 2) := by decide +kernel
theorem d_M_isEnough_65 : decode b_M_isEnough 65 = .ok (.if_icmp .ge 36, 3) := by decide +kernel
theorem d_M_isEnough_68 : decode b_M_isEnough 68 = .ok (.iload_n 3, 1) := by decide +kernel
theorem d_M_isEnough_69 : decode b_M_isEnough 69 = .ok (.sipush 500, 3) := by decide +kernel
theorem d_M_isEnough_72 : decode b_M_isEnough 72 = .ok (.if_icmp .ge 29, 3) := by decide +kernel
theorem d_M_isEnough_75 : decode b_M_isEnough 75 = .ok (.aload_n 0, 1) := by decide +kernel
theorem d_M_isEnough_76 : decode b_M_isEnough 76 = .ok (.getfield 26, 3) := by decide +kernel
theorem d_M_isEnough_79 : decode b_M_isEnough 79 = .ok (.sipush 162, 3) := by decide +kernel
theorem d_M_isEnough_82 : decode b_M_isEnough 82 = .ok (.iload 8, 2) := by decide +kernel
theorem d_M_isEnough_84 : decode b_M_isEnough 84 = .ok (.iadd, 1) := by decide +kernel
theorem d_M_isEnough_85 : decode b_M_isEnough 85 = .ok (.laload, 1) := by decide +kernel
theorem d_M_isEnough_86 : decode b_M_isEnough 86 = .ok (.lload 6, 2) := by decide +kernel
theorem d_M_isEnough_88 : decode b_M_isEnough 88 = .ok (.lcmp, 1) := by decide +kernel
theorem d_M_isEnough_89 : decode b_M_isEnough 89 = .ok (.ifCond .gt 12, 3) := by decide +kernel
theorem d_M_isEnough_92 : decode b_M_isEnough 92 = .ok (.iinc 3 1, 3) := by decide +kernel
theorem d_M_isEnough_95 : decode b_M_isEnough 95 = .ok (.iinc 8 1, 3) := by decide +kernel
theorem d_M_isEnough_98 : decode b_M_isEnough 98 = .ok (.goto (-37), 3) := by decide +kernel
theorem d_M_isEnough_101 : decode b_M_isEnough 101 = .ok (.iinc 5 1, 3) := by decide +kernel
theorem d_M_isEnough_104 : decode b_M_isEnough 104 = .ok (.goto (-82), 3) := by decide +kernel
theorem d_M_isEnough_107 : decode b_M_isEnough 107 = .ok (.iinc 4 1, 3) := by decide +kernel
theorem d_M_isEnough_110 : decode b_M_isEnough 110 = .ok (.goto (-105), 3) := by decide +kernel
theorem d_M_isEnough_113 : decode b_M_isEnough 113 = .ok (.iload_n 3, 1) := by decide +kernel
theorem d_M_isEnough_114 : decode b_M_isEnough 114 = .ok (.sipush 500, 3) := by decide +kernel
theorem d_M_isEnough_117 : decode b_M_isEnough 117 = .ok (.if_icmp .ne 7, 3) := by decide +kernel
theorem d_M_isEnough_120 : decode b_M_isEnough 120 = .ok (.iconst 1, 1) := by decide +kernel
theorem d_M_isEnough_121 : decode b_M_isEnough 121 = .ok (.goto 4, 3) := by decide +kernel
theorem d_M_isEnough_124 : decode b_M_isEnough 124 = .ok (.iconst 0, 1) := by decide +kernel
theorem d_M_isEnough_125 : decode b_M_isEnough 125 = .ok (.ireturn, 1) := by decide +kernel
theorem d_M_make_0 : decode b_M_make 0 = .ok (.aload_n 0, 1) := by decide +kernel
theorem d_M_make_1 : decode b_M_make 1 = .ok (.getfield 53, 3) := by decide +kernel
theorem d_M_make_4 : decode b_M_make 4 = .ok (.ifCond .eq 4, 3) := by decide +kernel
theorem d_M_make_7 : decode b_M_make 7 = .ok (.return_, 1) := by decide +kernel
theorem d_M_make_8 : decode b_M_make 8 = .ok (.aload_n 0, 1) := by decide +kernel
theorem d_M_make_9 : decode b_M_make 9 = .ok (.iconst 1, 1) := by decide +kernel
theorem d_M_make_10 : decode b_M_make 10 = .ok (.putfield 53, 3) := by decide +kernel
theorem d_M_make_13 : decode b_M_make 13 = .ok (.aload_n 0, 1) := by decide +kernel
theorem d_M_make_14 : decode b_M_make 14 = .ok (.invokevirtual 101, 3) := by decide +kernel
theorem d_M_make_17 : decode b_M_make 17 = .ok (.lconst 0, 1) := by decide +kernel
theorem d_M_make_18 : decode b_M_make 18 = .ok (.lstore_n 1, 1) := by decide +kernel
