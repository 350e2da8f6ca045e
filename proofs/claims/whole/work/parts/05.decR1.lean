theorem d_R_init_0 : decode b_R_init 0 = .ok (.aload_n 0, 1) := by decide +kernel
theorem d_R_init_1 : decode b_R_init 1 = .ok (.invokespecial 3, 3) := by decide +kernel
theorem d_R_init_4 : decode b_R_init 4 = .ok (.aload_n 0, 1) := by decide +kernel
theorem d_R_init_5 : decode b_R_init 5 = .ok (.bipush 6, 2) := by decide +kernel
theorem d_R_init_7 : decode b_R_init 7 = .ok (.newarray .int, 2) := by decide +kernel
theorem d_R_init_9 : decode b_R_init 9 = .ok (.putfield 9, 3) := by decide +kernel
theorem d_R_init_12 : decode b_R_init 12 = .ok (.aload_n 0, 1) := by decide +kernel
theorem d_R_init_13 : decode b_R_init 13 = .ok (.new 13, 3) := by decide +kernel
theorem d_R_init_16 : decode b_R_init 16 = .ok (.dup, 1) := by decide +kernel
theorem d_R_init_17 : decode b_R_init 17 = .ok (.invokespecial 15, 3) := by decide +kernel
theorem d_R_init_20 : decode b_R_init 20 = .ok (.putfield 16, 3) := by decide +kernel
theorem d_R_init_23 : decode b_R_init 23 = .ok (.aload_n 0, 1) := by decide +kernel
theorem d_R_init_24 : decode b_R_init 24 = .ok (.sipush 500, 3) := by decide +kernel
theorem d_R_init_27 : decode b_R_init 27 = .ok (.newarray .long, 2) := by decide +kernel
theorem d_R_init_29 : decode b_R_init 29 = .ok (.putfield 20, 3) := by decide +kernel
theorem d_R_init_32 : decode b_R_init 32 = .ok (.aload_n 0, 1) := by decide +kernel
theorem d_R_init_33 : decode b_R_init 33 = .ok (.sipush 500, 3) := by decide +kernel
theorem d_R_init_36 : decode b_R_init 36 = .ok (.newarray .long, 2) := by decide +kernel
theorem d_R_init_38 : decode b_R_init 38 = .ok (.putfield 24, 3) := by decide +kernel
theorem d_R_init_41 : decode b_R_init 41 = .ok (.aload_n 0, 1) := by decide +kernel
theorem d_R_init_42 : decode b_R_init 42 = .ok (.new 27, 3) := by decide +kernel
theorem d_R_init_45 : decode b_R_init 45 = .ok (.dup, 1) := by decide +kernel
theorem d_R_init_46 : decode b_R_init 46 = .ok (.iload_n 1, 1) := by decide +kernel
theorem d_R_init_47 : decode b_R_init 47 = .ok (.invokestatic 29, 3) := by decide +kernel
theorem d_R_init_50 : decode b_R_init 50 = .ok (.invokespecial 33, 3) := by decide +kernel
theorem d_R_init_53 : decode b_R_init 53 = .ok (.putfield 36, 3) := by decide +kernel
theorem d_R_init_56 : decode b_R_init 56 = .ok (.aload_n 0, 1) := by decide +kernel
theorem d_R_init_57 : decode b_R_init 57 = .ok (.new 27, 3) := by decide +kernel
theorem d_R_init_60 : decode b_R_init 60 = .ok (.dup, 1) := by decide +kernel
theorem d_R_init_61 : decode b_R_init 61 = .ok (.iload_n 2, 1) := by decide +kernel
theorem d_R_init_62 : decode b_R_init 62 = .ok (.invokestatic 29, 3) := by decide +kernel
theorem d_R_init_65 : decode b_R_init 65 = .ok (.invokespecial 33, 3) := by decide +kernel
theorem d_R_init_68 : decode b_R_init 68 = .ok (.putfield 40, 3) := by decide +kernel
theorem d_R_init_71 : decode b_R_init 71 = .ok (.aload_n 0, 1) := by decide +kernel
theorem d_R_init_72 : decode b_R_init 72 = .ok (.new 27, 3) := by decide +kernel
theorem d_R_init_75 : decode b_R_init 75 = .ok (.dup, 1) := by decide +kernel
theorem d_R_init_76 : decode b_R_init 76 = .ok (.iload_n 3, 1) := by decide +kernel
theorem d_R_init_77 : decode b_R_init 77 = .ok (.invokestatic 29, 3) := by decide +kernel
theorem d_R_init_80 : decode b_R_init 80 = .ok (.invokespecial 33, 3) := by decide +kernel
theorem d_R_init_83 : decode b_R_init 83 = .ok (.putfield 43, 3) := by decide +kernel
theorem d_R_init_86 : decode b_R_init 86 = .ok (.iconst 0, 1) := by decide +kernel
theorem d_R_init_87 : decode b_R_init 87 = .ok (.istore 4, 2) := by decide +kernel
theorem d_R_init_89 : decode b_R_init 89 = .ok (.iload 4, 2) := by decide +kernel
theorem d_R_init_91 : decode b_R_init 91 = .ok (.bipush 6, 2) := by decide +kernel
theorem d_R_init_93 : decode b_R_init 93 = .ok (.if_icmp .ge 19, 3) := by decide +kernel
theorem d_R_init_96 : decode b_R_init 96 = .ok (.aload_n 0, 1) := by decide +kernel
theorem d_R_init_97 : decode b_R_init 97 = .ok (.getfield 9, 3) := by decide +kernel
theorem d_R_init_100 : decode b_R_init 100 = .ok (.iload 4, 2) := by decide +kernel
theorem d_R_init_102 : decode b_R_init 102 = .ok (.sipush 900, 3) := by decide +kernel
theorem d_R_init_105 : decode b_R_init 105 = .ok (.iastore, 1) := by decide +kernel
theorem d_R_init_106 : decode b_R_init 106 = .ok (.iinc 4 1, 3) := by decide +kernel
theorem d_R_init_109 : decode b_R_init 109 = .ok (.goto (-20), 3) := by decide +kernel
theorem d_R_init_112 : decode b_R_init 112 = .ok (.return_, 1) := by decide +kernel
theorem d_R_source_0 : decode b_R_source 0 = .ok (.aload_n 0, 1) := by decide +kernel
theorem d_R_source_1 : decode b_R_source 1 = .ok (.iload_n 1, 1) := by decide +kernel
theorem d_R_source_2 : decode b_R_source 2 = .ok (.iload_n 2, 1) := by decide +kernel
theorem d_R_source_3 : decode b_R_source 3 = .ok (.iload_n 3, 1) := by decide +kernel
theorem d_R_source_4 : decode b_R_source 4 = .ok (.invokevirtual 46, 3) := by decide +kernel
theorem d_R_source_7 : decode b_R_source 7 = .ok (.aload_n 0, 1) := by decide +kernel
theorem d_R_source_8 : decode b_R_source 8 = .ok (.getfield 36, 3) := by decide +kernel
theorem d_R_source_11 : decode b_R_source 11 = .ok (.iload_n 1, 1) := by decide +kernel
theorem d_R_source_12 : decode b_R_source 12 = .ok (.putfield 50, 3) := by decide +kernel
theorem d_R_source_15 : decode b_R_source 15 = .ok (.aload_n 0, 1) := by decide +kernel
theorem d_R_source_16 : decode b_R_source 16 = .ok (.getfield 40, 3) := by decide +kernel
theorem d_R_source_19 : decode b_R_source 19 = .ok (.iload_n 2, 1) := by decide +kernel
theorem d_R_source_20 : decode b_R_source 20 = .ok (.putfield 50, 3) := by decide +kernel
theorem d_R_source_23 : decode b_R_source 23 = .ok (.aload_n 0, 1) := by decide +kernel
theorem d_R_source_24 : decode b_R_source 24 = .ok (.getfield 43, 3) := by decide +kernel
theorem d_R_source_27 : decode b_R_source 27 = .ok (.iload_n 3, 1) := by decide +kernel
theorem d_R_source_28 : decode b_R_source 28 = .ok (.putfield 50, 3) := by decide +kernel
theorem d_R_source_31 : decode b_R_source 31 = .ok (.aload_n 0, 1) := by decide +kernel
theorem d_R_source_32 : decode b_R_source 32 = .ok (.invokevirtual 54, 3) := by decide +kernel
theorem d_R_source_35 : decode b_R_source 35 = .ok (.return_, 1) := by decide +kernel
theorem d_R_listener_0 : decode b_R_listener 0 = .ok (.aload_n 0, 1) := by decide +kernel
theorem d_R_listener_1 : decode b_R_listener 1 = .ok (.iload_n 1, 1) := by decide +kernel
theorem d_R_listener_2 : decode b_R_listener 2 = .ok (.iload_n 2, 1) := by decide +kernel
theorem d_R_listener_3 : decode b_R_listener 3 = .ok (.iload_n 3, 1) := by decide +kernel
theorem d_R_listener_4 : decode b_R_listener 4 = .ok (.invokevirtual 46, 3) := by decide +kernel
theorem d_R_listener_7 : decode b_R_listener 7 = .ok (.aload_n 0, 1) := by decide +kernel
theorem d_R_listener_8 : decode b_R_listener 8 = .ok (.getfield 36, 3) := by decide +kernel
theorem d_R_listener_11 : decode b_R_listener 11 = .ok (.iload_n 1, 1) := by decide +kernel
theorem d_R_listener_12 : decode b_R_listener 12 = .ok (.putfield 57, 3) := by decide +kernel
theorem d_R_listener_15 : decode b_R_listener 15 = .ok (.aload_n 0, 1) := by decide +kernel
theorem d_R_listener_16 : decode b_R_listener 16 = .ok (.getfield 40, 3) := by decide +kernel
theorem d_R_listener_19 : decode b_R_listener 19 = .ok (.iload_n 2, 1) := by decide +kernel
theorem d_R_listener_20 : decode b_R_listener 20 = .ok (.putfield 57, 3) := by decide +kernel
theorem d_R_listener_23 : decode b_R_listener 23 = .ok (.aload_n 0, 1) := by decide +kernel
theorem d_R_listener_24 : decode b_R_listener 24 = .ok (.getfield 43, 3) := by decide +kernel
theorem d_R_listener_27 : decode b_R_listener 27 = .ok (.iload_n 3, 1) := by decide +kernel
theorem d_R_listener_28 : decode b_R_listener 28 = .ok (.putfield 57, 3) := by decide +kernel
theorem d_R_listener_31 : decode b_R_listener 31 = .ok (.aload_n 0, 1) := by decide +kernel
theorem d_R_listener_32 : decode b_R_listener 32 = .ok (.invokevirtual 54, 3) := by decide +kernel
theorem d_R_listener_35 : decode b_R_listener 35 = .ok (.return_, 1) := by decide +kernel
theorem d_R_keeps_0 : decode b_R_keeps 0 = .ok (.iload_n 1, 1) := by decide +kernel
theorem d_R_keeps_1 : decode b_R_keeps 1 = .ok (.iconst 0, 1) := by decide +kernel
theorem d_R_keeps_2 : decode b_R_keeps 2 = .ok (.iconst 5, 1) := by decide +kernel
theorem d_R_keeps_3 : decode b_R_keeps 3 = .ok (.invokestatic 60, 3) := by decide +kernel
theorem d_R_keeps_6 : decode b_R_keeps 6 = .ok (.iload_n 2, 1) := by decide +kernel
theorem d_R_keeps_7 : decode b_R_keeps 7 = .ok (.iconst 0, 1) := by decide +kernel
theorem d_R_keeps_8 : decode b_R_keeps 8 = .ok (.sipush 1000, 3) := by decide +kernel
theorem d_R_keeps_11 : decode b_R_keeps 11 = .ok (.invokestatic 60, 3) := by decide +kernel
theorem d_R_keeps_14 : decode b_R_keeps 14 = .ok (.aload_n 0, 1) := by decide +kernel
theorem d_R_keeps_15 : decode b_R_keeps 15 = .ok (.getfield 9, 3) := by decide +kernel
theorem d_R_keeps_18 : decode b_R_keeps 18 = .ok (.iload_n 1, 1) := by decide +kernel
theorem d_R_keeps_19 : decode b_R_keeps 19 = .ok (.iaload, 1) := by decide +kernel
theorem d_R_keeps_20 : decode b_R_keeps 20 = .ok (.istore_n 3, 1) := by decide +kernel
theorem d_R_keeps_21 : decode b_R_keeps 21 = .ok (.aload_n 0, 1) := by decide +kernel
theorem d_R_keeps_22 : decode b_R_keeps 22 = .ok (.getfield 9, 3) := by decide +kernel
theorem d_R_keeps_25 : decode b_R_keeps 25 = .ok (.iload_n 1, 1) := by decide +kernel
theorem d_R_keeps_26 : decode b_R_keeps 26 = .ok (.iload_n 2, 1) := by decide +kernel
theorem d_R_keeps_27 : decode b_R_keeps 27 = .ok (.iastore, 1) := by decide +kernel
theorem d_R_keeps_28 : decode b_R_keeps 28 = .ok (.aload_n 0, 1) := by decide +kernel
theorem d_R_keeps_29 : decode b_R_keeps 29 = .ok (.iconst 0, 1) := by decide +kernel
theorem d_R_keeps_30 : decode b_R_keeps 30 = .ok (.putfield 63, 3) := by decide +kernel
theorem d_R_keeps_33 : decode b_R_keeps 33 = .ok (.iload_n 3, 1) := by decide +kernel
theorem d_R_keeps_34 : decode b_R_keeps 34 = .ok (.ireturn, 1) := by decide +kernel
theorem d_R_image_0 : decode b_R_image 0 = .ok (.iload_n 1, 1) := by decide +kernel
theorem d_R_image_1 : decode b_R_image 1 = .ok (.iload_n 2, 1) := by decide +kernel
theorem d_R_image_2 : decode b_R_image 2 = .ok (.iload_n 3, 1) := by decide +kernel
theorem d_R_image_3 : decode b_R_image 3 = .ok (.invokestatic 67, 3) := by decide +kernel
theorem d_R_image_6 : decode b_R_image 6 = .ok (.iload 4, 2) := by decide +kernel
theorem d_R_image_8 : decode b_R_image 8 = .ok (.iconst 0, 1) := by decide +kernel
theorem d_R_image_9 : decode b_R_image 9 = .ok (.iconst 3, 1) := by decide +kernel
theorem d_R_image_10 : decode b_R_image 10 = .ok (.invokestatic 60, 3) := by decide +kernel
theorem d_R_image_13 : decode b_R_image 13 = .ok (.iload 4, 2) := by decide +kernel
theorem d_R_image_15 : decode b_R_image 15 = .ok (.tableswitch 59 0 2 #[25, 33, 41], 25) := by decide +kernel
theorem d_R_image_40 : decode b_R_image 40 = .ok (.aload_n 0, 1) := by decide +kernel
theorem d_R_image_41 : decode b_R_image 41 = .ok (.iload_n 1, 1) := by decide +kernel
theorem d_R_image_42 : decode b_R_image 42 = .ok (.iload_n 2, 1) := by decide +kernel
theorem d_R_image_43 : decode b_R_image 43 = .ok (.iload_n 3, 1) := by decide +kernel
theorem d_R_image_44 : decode b_R_image 44 = .ok (.invokevirtual 70, 3) := by decide +kernel
theorem d_R_image_47 : decode b_R_image 47 = .ok (.lreturn, 1) := by decide +kernel
theorem d_R_image_48 : decode b_R_image 48 = .ok (.aload_n 0, 1) := by decide +kernel
theorem d_R_image_49 : decode b_R_image 49 = .ok (.iload_n 1, 1) := by decide +kernel
theorem d_R_image_50 : decode b_R_image 50 = .ok (.iload_n 2, 1) := by decide +kernel
theorem d_R_image_51 : decode b_R_image 51 = .ok (.iload_n 3, 1) := by decide +kernel
theorem d_R_image_52 : decode b_R_image 52 = .ok (.invokevirtual 74, 3) := by decide +kernel
theorem d_R_image_55 : decode b_R_image 55 = .ok (.lreturn, 1) := by decide +kernel
theorem d_R_image_56 : decode b_R_image 56 = .ok (.aload_n 0, 1) := by decide +kernel
theorem d_R_image_57 : decode b_R_image 57 = .ok (.iload_n 1, 1) := by decide +kernel
theorem d_R_image_58 : decode b_R_image 58 = .ok (.iload_n 2, 1) := by decide +kernel
theorem d_R_image_59 : decode b_R_image 59 = .ok (.iload_n 3, 1) := by decide +kernel
theorem d_R_image_60 : decode b_R_image 60 = .ok (.invokevirtual 74, 3) := by decide +kernel
theorem d_R_image_63 : decode b_R_image 63 = .ok (.aload_n 0, 1) := by decide +kernel
theorem d_R_image_64 : decode b_R_image 64 = .ok (.iload_n 1, 1) := by decide +kernel
theorem d_R_image_65 : decode b_R_image 65 = .ok (.iload_n 2, 1) := by decide +kernel
theorem d_R_image_66 : decode b_R_image 66 = .ok (.iload_n 3, 1) := by decide +kernel
theorem d_R_image_67 : decode b_R_image 67 = .ok (.invokevirtual 70, 3) := by decide +kernel
theorem d_R_image_70 : decode b_R_image 70 = .ok (.invokestatic 77, 3) := by decide +kernel
theorem d_R_image_73 : decode b_R_image 73 = .ok (.lreturn, 1) := by decide +kernel
theorem d_R_image_74 : decode b_R_image 74 = .ok (.iload_n 1, 1) := by decide +kernel
theorem d_R_image_75 : decode b_R_image 75 = .ok (.iload_n 2, 1) := by decide +kernel
theorem d_R_image_76 : decode b_R_image 76 = .ok (.iload_n 3, 1) := by decide +kernel
theorem d_R_image_77 : decode b_R_image 77 = .ok (.invokestatic 81, 3) := by decide +kernel
theorem d_R_image_80 : decode b_R_image 80 = .ok (.i2l, 1) := by decide +kernel
theorem d_R_image_81 : decode b_R_image 81 = .ok (.lreturn, 1) := by decide +kernel
theorem d_R_echo_0 : decode b_R_echo 0 = .ok (.iload_n 1, 1) := by decide +kernel
theorem d_R_echo_1 : decode b_R_echo 1 = .ok (.iconst 0, 1) := by decide +kernel
theorem d_R_echo_2 : decode b_R_echo 2 = .ok (.sipush 499, 3) := by decide +kernel
theorem d_R_echo_5 : decode b_R_echo 5 = .ok (.invokestatic 60, 3) := by decide +kernel
theorem d_R_echo_8 : decode b_R_echo 8 = .ok (.iload_n 2, 1) := by decide +kernel
theorem d_R_echo_9 : decode b_R_echo 9 = .ok (.iconst 0, 1) := by decide +kernel
theorem d_R_echo_10 : decode b_R_echo 10 = .ok (.bipush 6, 2) := by decide +kernel
theorem d_R_echo_12 : decode b_R_echo 12 = .ok (.invokestatic 60, 3) := by decide +kernel
theorem d_R_echo_15 : decode b_R_echo 15 = .ok (.aload_n 0, 1) := by decide +kernel
theorem d_R_echo_16 : decode b_R_echo 16 = .ok (.invokevirtual 85, 3) := by decide +kernel
theorem d_R_echo_19 : decode b_R_echo 19 = .ok (.aload_n 0, 1) := by decide +kernel
theorem d_R_echo_20 : decode b_R_echo 20 = .ok (.getfield 20, 3) := by decide +kernel
theorem d_R_echo_23 : decode b_R_echo 23 = .ok (.iload_n 1, 1) := by decide +kernel
theorem d_R_echo_24 : decode b_R_echo 24 = .ok (.laload, 1) := by decide +kernel
theorem d_R_echo_25 : decode b_R_echo 25 = .ok (.lstore_n 3, 1) := by decide +kernel
theorem d_R_echo_26 : decode b_R_echo 26 = .ok (.lload_n 3, 1) := by decide +kernel
theorem d_R_echo_27 : decode b_R_echo 27 = .ok (.invokestatic 88, 3) := by decide +kernel
theorem d_R_echo_30 : decode b_R_echo 30 = .ok (.istore 5, 2) := by decide +kernel
theorem d_R_echo_32 : decode b_R_echo 32 = .ok (.lload_n 3, 1) := by decide +kernel
theorem d_R_echo_33 : decode b_R_echo 33 = .ok (.invokestatic 92, 3) := by decide +kernel
theorem d_R_echo_36 : decode b_R_echo 36 = .ok (.istore 6, 2) := by decide +kernel
theorem d_R_echo_38 : decode b_R_echo 38 = .ok (.lload_n 3, 1) := by decide +kernel
theorem d_R_echo_39 : decode b_R_echo 39 = .ok (.invokestatic 95, 3) := by decide +kernel
theorem d_R_echo_42 : decode b_R_echo 42 = .ok (.istore 7, 2) := by decide +kernel
theorem d_R_echo_44 : decode b_R_echo 44 = .ok (.iload_n 2, 1) := by decide +kernel
theorem d_R_echo_45 : decode b_R_echo 45 = .ok (.tableswitch 39 4 6 #[27, 31, 35], 27) := by decide +kernel
theorem d_R_echo_72 : decode b_R_echo 72 = .ok (.iload 5, 2) := by decide +kernel
theorem d_R_echo_74 : decode b_R_echo 74 = .ok (.i2l, 1) := by decide +kernel
theorem d_R_echo_75 : decode b_R_echo 75 = .ok (.lreturn, 1) := by decide +kernel
theorem d_R_echo_76 : decode b_R_echo 76 = .ok (.iload 6, 2) := by decide +kernel
theorem d_R_echo_78 : decode b_R_echo 78 = .ok (.i2l, 1) := by decide +kernel
theorem d_R_echo_79 : decode b_R_echo 79 = .ok (.lreturn, 1) := by decide +kernel
theorem d_R_echo_80 : decode b_R_echo 80 = .ok (.iload 7, 2) := by decide +kernel
theorem d_R_echo_82 : decode b_R_echo 82 = .ok (.i2l, 1) := by decide +kernel
theorem d_R_echo_83 : decode b_R_echo 83 = .ok (.lreturn, 1) := by decide +kernel
theorem d_R_echo_84 : decode b_R_echo 84 = .ok (.aload_n 0, 1) := by decide +kernel
theorem d_R_echo_85 : decode b_R_echo 85 = .ok (.iload 5, 2) := by decide +kernel
theorem d_R_echo_87 : decode b_R_echo 87 = .ok (.iload 6, 2) := by decide +kernel
theorem d_R_echo_89 : decode b_R_echo 89 = .ok (.iload 7, 2) := by decide +kernel
theorem d_R_echo_91 : decode b_R_echo 91 = .ok (.iload_n 2, 1) := by decide +kernel
theorem d_R_echo_92 : decode b_R_echo 92 = .ok (.invokevirtual 98, 3) := by decide +kernel
theorem d_R_echo_95 : decode b_R_echo 95 = .ok (.lreturn, 1) := by decide +kernel
theorem d_R_place_0 : decode b_R_place 0 = .ok (.iload_n 1, 1) := by decide +kernel
theorem d_R_place_1 : decode b_R_place 1 = .ok (.iload_n 2, 1) := by decide +kernel
theorem d_R_place_2 : decode b_R_place 2 = .ok (.iload_n 3, 1) := by decide +kernel
theorem d_R_place_3 : decode b_R_place 3 = .ok (.invokestatic 67, 3) := by decide +kernel
theorem d_R_place_6 : decode b_R_place 6 = .ok (.aload_n 0, 1) := by decide +kernel
theorem d_R_place_7 : decode b_R_place 7 = .ok (.invokevirtual 85, 3) := by decide +kernel
theorem d_R_place_10 : decode b_R_place 10 = .ok (.aload_n 0, 1) := by decide +kernel
theorem d_R_place_11 : decode b_R_place 11 = .ok (.iload_n 1, 1) := by decide +kernel
theorem d_R_place_12 : decode b_R_place 12 = .ok (.iload_n 2, 1) := by decide +kernel
theorem d_R_place_13 : decode b_R_place 13 = .ok (.iload_n 3, 1) := by decide +kernel
theorem d_R_place_14 : decode b_R_place 14 = .ok (.invokevirtual 70, 3) := by decide +kernel
theorem d_R_place_17 : decode b_R_place 17 = .ok (.iload_n 1, 1) := by decide +kernel
theorem d_R_place_18 : decode b_R_place 18 = .ok (.iload_n 2, 1) := by decide +kernel
theorem d_R_place_19 : decode b_R_place 19 = .ok (.iload_n 3, 1) := by decide +kernel
theorem d_R_place_20 : decode b_R_place 20 = .ok (.invokestatic 102, 3) := by decide +kernel
theorem d_R_place_23 : decode b_R_place 23 = .ok (.lstore 4, 2) := by decide +kernel
theorem d_R_place_25 : decode b_R_place 25 = .ok (.iconst 0, 1) := by decide +kernel
theorem d_R_place_26 : decode b_R_place 26 = .ok (.istore 6, 2) := by decide +kernel
theorem d_R_place_28 : decode b_R_place 28 = .ok (.iload 6, 2) := by decide +kernel
theorem d_R_place_30 : decode b_R_place 30 = .ok (.sipush 500, 3) := by decide +kernel
theorem d_R_place_33 : decode b_R_place 33 = .ok (.if_icmp .ge 25, 3) := by decide +kernel
theorem d_R_place_36 : decode b_R_place 36 = .ok (.aload_n 0, 1) := by decide +kernel
theorem d_R_place_37 : decode b_R_place 37 = .ok (.getfield 20, 3) := by decide +kernel
theorem d_R_place_40 : decode b_R_place 40 = .ok (.iload 6, 2) := by decide +kernel
theorem d_R_place_42 : decode b_R_place 42 = .ok (.laload, 1) := by decide +kernel
theorem d_R_place_43 : decode b_R_place 43 = .ok (.lload 4, 2) := by decide +kernel
theorem d_R_place_45 : decode b_R_place 45 = .ok (.lcmp, 1) := by decide +kernel
theorem d_R_place_46 : decode b_R_place 46 = .ok (.ifCond .ne 6, 3) := by decide +kernel
theorem d_R_place_49 : decode b_R_place 49 = .ok (.iload 6, 2) := by decide +kernel
theorem d_R_place_51 : decode b_R_place 51 = .ok (.ireturn, 1) := by decide +kernel
theorem d_R_place_52 : decode b_R_place 52 = .ok (.iinc 6 1, 3) := by decide +kernel
theorem d_R_place_55 : decode b_R_place 55 = .ok (.goto (-27), 3) := by decide +kernel
theorem d_R_place_58 : decode b_R_place 58 = .ok (.iconst (-1), 1) := by decide +kernel
theorem d_R_place_59 : decode b_R_place 59 = .ok (.ireturn, 1) := by decide +kernel
theorem d_R_until_0 : decode b_R_until 0 = .ok (.lload_n 1, 1) := by decide +kernel
theorem d_R_until_1 : decode b_R_until 1 = .ok (.invokestatic 106, 3) := by decide +kernel
theorem d_R_until_4 : decode b_R_until 4 = .ok (.aload_n 0, 1) := by decide +kernel
theorem d_R_until_5 : decode b_R_until 5 = .ok (.invokevirtual 85, 3) := by decide +kernel
theorem d_R_until_8 : decode b_R_until 8 = .ok (.aload_n 0, 1) := by decide +kernel
theorem d_R_until_9 : decode b_R_until 9 = .ok (.lload_n 1, 1) := by decide +kernel
theorem d_R_until_10 : decode b_R_until 10 = .ok (.invokevirtual 110, 3) := by decide +kernel
theorem d_R_until_13 : decode b_R_until 13 = .ok (.ireturn, 1) := by decide +kernel
theorem d_R_loud_0 : decode b_R_loud 0 = .ok (.iload_n 1, 1) := by decide +kernel
theorem d_R_loud_1 : decode b_R_loud 1 = .ok (.iconst 0, 1) := by decide +kernel
theorem d_R_loud_2 : decode b_R_loud 2 = .ok (.sipush 499, 3) := by decide +kernel
theorem d_R_loud_5 : decode b_R_loud 5 = .ok (.invokestatic 60, 3) := by decide +kernel
theorem d_R_loud_8 : decode b_R_loud 8 = .ok (.iload_n 2, 1) := by decide +kernel
theorem d_R_loud_9 : decode b_R_loud 9 = .ok (.iload_n 1, 1) := by decide +kernel
theorem d_R_loud_10 : decode b_R_loud 10 = .ok (.sipush 499, 3) := by decide +kernel
theorem d_R_loud_13 : decode b_R_loud 13 = .ok (.invokestatic 60, 3) := by decide +kernel
theorem d_R_loud_16 : decode b_R_loud 16 = .ok (.aload_n 0, 1) := by decide +kernel
theorem d_R_loud_17 : decode b_R_loud 17 = .ok (.invokevirtual 113, 3) := by decide +kernel
theorem d_R_loud_20 : decode b_R_loud 20 = .ok (.aload_n 0, 1) := by decide +kernel
theorem d_R_loud_21 : decode b_R_loud 21 = .ok (.iload_n 1, 1) := by decide +kernel
theorem d_R_loud_22 : decode b_R_loud 22 = .ok (.iload_n 2, 1) := by decide +kernel
theorem d_R_loud_23 : decode b_R_loud 23 = .ok (.iconst 1, 1) := by decide +kernel
theorem d_R_loud_24 : decode b_R_loud 24 = .ok (.iadd, 1) := by decide +kernel
theorem d_R_loud_25 : decode b_R_loud 25 = .ok (.invokevirtual 116, 3) := by decide +kernel
theorem d_R_loud_28 : decode b_R_loud 28 = .ok (.lreturn, 1) := by decide +kernel
theorem d_R_early_0 : decode b_R_early 0 = .ok (.lload_n 1, 1) := by decide +kernel
theorem d_R_early_1 : decode b_R_early 1 = .ok (.invokestatic 106, 3) := by decide +kernel
theorem d_R_early_4 : decode b_R_early 4 = .ok (.iload_n 3, 1) := by decide +kernel
theorem d_R_early_5 : decode b_R_early 5 = .ok (.iconst 0, 1) := by decide +kernel
theorem d_R_early_6 : decode b_R_early 6 = .ok (.iconst 1, 1) := by decide +kernel
theorem d_R_early_7 : decode b_R_early 7 = .ok (.invokestatic 60, 3) := by decide +kernel
theorem d_R_early_10 : decode b_R_early 10 = .ok (.aload_n 0, 1) := by decide +kernel
theorem d_R_early_11 : decode b_R_early 11 = .ok (.invokevirtual 113, 3) := by decide +kernel
theorem d_R_early_14 : decode b_R_early 14 = .ok (.aload_n 0, 1) := by decide +kernel
theorem d_R_early_15 : decode b_R_early 15 = .ok (.iconst 0, 1) := by decide +kernel
theorem d_R_early_16 : decode b_R_early 16 = .ok (.sipush 500, 3) := by decide +kernel
theorem d_R_early_19 : decode b_R_early 19 = .ok (.invokevirtual 116, 3) := by decide +kernel
theorem d_R_early_22 : decode b_R_early 22 = .ok (.lstore 4, 2) := by decide +kernel
theorem d_R_early_24 : decode b_R_early 24 = .ok (.aload_n 0, 1) := by decide +kernel
theorem d_R_early_25 : decode b_R_early 25 = .ok (.iconst 0, 1) := by decide +kernel
theorem d_R_early_26 : decode b_R_early 26 = .ok (.aload_n 0, 1) := by decide +kernel
theorem d_R_early_27 : decode b_R_early 27 = .ok (.lload_n 1, 1) := by decide +kernel
theorem d_R_early_28 : decode b_R_early 28 = .ok (.invokevirtual 110, 3) := by decide +kernel
theorem d_R_early_31 : decode b_R_early 31 = .ok (.invokevirtual 116, 3) := by decide +kernel
theorem d_R_early_34 : decode b_R_early 34 = .ok (.lstore 6, 2) := by decide +kernel
theorem d_R_early_36 : decode b_R_early 36 = .ok (.lload 4, 2) := by decide +kernel
theorem d_R_early_38 : decode b_R_early 38 = .ok (.lload 6, 2) := by decide +kernel
theorem d_R_early_40 : decode b_R_early 40 = .ok (.invokestatic 120, 3) := by decide +kernel
theorem d_R_early_43 : decode b_R_early 43 = .ok (.lstore 8, 2) := by decide +kernel
theorem d_R_early_45 : decode b_R_early 45 = .ok (.lload 8, 2) := by decide +kernel
theorem d_R_early_47 : decode b_R_early 47 = .ok (.lconst 0, 1) := by decide +kernel
theorem d_R_early_48 : decode b_R_early 48 = .ok (.lcmp, 1) := by decide +kernel
theorem d_R_early_49 : decode b_R_early 49 = .ok (.ifCond .ne 6, 3) := by decide +kernel
theorem d_R_early_52 : decode b_R_early 52 = .ok (.iload_n 3, 1) := by decide +kernel
theorem d_R_early_53 : decode b_R_early 53 = .ok (.i2l, 1) := by decide +kernel
theorem d_R_early_54 : decode b_R_early 54 = .ok (.lreturn, 1) := by decide +kernel
theorem d_R_early_55 : decode b_R_early 55 = .ok (.iload_n 3, 1) := by decide +kernel
theorem d_R_early_56 : decode b_R_early 56 = .ok (.ifCond .ne 8, 3) := by decide +kernel
theorem d_R_early_59 : decode b_R_early 59 = .ok (.lload 6, 2) := by decide +kernel
theorem d_R_early_61 : decode b_R_early 61 = .ok (.goto 5, 3) := by decide +kernel
theorem d_R_early_64 : decode b_R_early 64 = .ok (.lload 4, 2) := by decide +kernel
theorem d_R_early_66 : decode b_R_early 66 = .ok (.lload 8, 2) := by decide +kernel
theorem d_R_early_68 : decode b_R_early 68 = .ok (.ldiv, 1) := by decide +kernel
theorem d_R_early_69 : decode b_R_early 69 = .ok (.lreturn, 1) := by decide +kernel
theorem d_R_enough_0 : decode b_R_enough 0 = .ok (.iload_n 1, 1) := by decide +kernel
theorem d_R_enough_1 : decode b_R_enough 1 = .ok (.iconst 0, 1) := by decide +kernel
theorem d_R_enough_2 : decode b_R_enough 2 = .ok (.sipush 1000, 3) := by decide +kernel
theorem d_R_enough_5 : decode b_R_enough 5 = .ok (.invokestatic 60, 3) := by decide +kernel
theorem d_R_enough_8 : decode b_R_enough 8 = .ok (.aload_n 0, 1) := by decide +kernel
theorem d_R_enough_9 : decode b_R_enough 9 = .ok (.invokevirtual 113, 3) := by decide +kernel
theorem d_R_enough_12 : decode b_R_enough 12 = .ok (.aload_n 0, 1) := by decide +kernel
theorem d_R_enough_13 : decode b_R_enough 13 = .ok (.iconst 0, 1) := by decide +kernel
theorem d_R_enough_14 : decode b_R_enough 14 = .ok (.sipush 500, 3) := by decide +kernel
theorem d_R_enough_17 : decode b_R_enough 17 = .ok (.invokevirtual 116, 3) := by decide +kernel
theorem d_R_enough_20 : decode b_R_enough 20 = .ok (.iload_n 1, 1) := by decide +kernel
theorem d_R_enough_21 : decode b_R_enough 21 = .ok (.i2l, 1) := by decide +kernel
theorem d_R_enough_22 : decode b_R_enough 22 = .ok (.lmul, 1) := by decide +kernel
theorem d_R_enough_23 : decode b_R_enough 23 = .ok (.lstore_n 2, 1) := by decide +kernel
theorem d_R_enough_24 : decode b_R_enough 24 = .ok (.lconst 0, 1) := by decide +kernel
theorem d_R_enough_25 : decode b_R_enough 25 = .ok (.lstore 4, 2) := by decide +kernel
theorem d_R_enough_27 : decode b_R_enough 27 = .ok (.iconst 0, 1) := by decide +kernel
theorem d_R_enough_28 : decode b_R_enough 28 = .ok (.istore 6, 2) := by decide +kernel
theorem d_R_enough_30 : decode b_R_enough 30 = .ok (.iload 6, 2) := by decide +kernel
theorem d_R_enough_32 : decode b_R_enough 32 = .ok (.sipush 500, 3) := by decide +kernel
theorem d_R_enough_35 : decode b_R_enough 35 = .ok (.if_icmp .ge 35, 3) := by decide +kernel
theorem d_R_enough_38 : decode b_R_enough 38 = .ok (.lload 4, 2) := by decide +kernel
theorem d_R_enough_40 : decode b_R_enough 40 = .ok (.aload_n 0, 1) := by decide +kernel
theorem d_R_enough_41 : decode b_R_enough 41 = .ok (.getfield 24, 3) := by decide +kernel
