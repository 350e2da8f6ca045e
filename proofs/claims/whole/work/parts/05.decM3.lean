theorem d_M_make_19 : decode b_M_make 19 = .ok (.ldc2_w 104, 3) := by decide +kernel
theorem d_M_make_22 : decode b_M_make 22 = .ok (.lstore_n 3, 1) := by decide +kernel
theorem d_M_make_23 : decode b_M_make 23 = .ok (.lload_n 1, 1) := by decide +kernel
theorem d_M_make_24 : decode b_M_make 24 = .ok (.lload_n 3, 1) := by decide +kernel
theorem d_M_make_25 : decode b_M_make 25 = .ok (.lcmp, 1) := by decide +kernel
theorem d_M_make_26 : decode b_M_make 26 = .ok (.ifCond .ge 35, 3) := by decide +kernel
theorem d_M_make_29 : decode b_M_make 29 = .ok (.lload_n 1, 1) := by decide +kernel
theorem d_M_make_30 : decode b_M_make 30 = .ok (.lload_n 3, 1) := by decide +kernel
theorem d_M_make_31 : decode b_M_make 31 = .ok (.ladd, 1) := by decide +kernel
theorem d_M_make_32 : decode b_M_make 32 = .ok (.ldc2_w 106, 3) := by decide +kernel
theorem d_M_make_35 : decode b_M_make 35 = .ok (.ldiv, 1) := by decide +kernel
theorem d_M_make_36 : decode b_M_make 36 = .ok (.lstore 5, 2) := by decide +kernel
theorem d_M_make_38 : decode b_M_make 38 = .ok (.aload_n 0, 1) := by decide +kernel
theorem d_M_make_39 : decode b_M_make 39 = .ok (.lload 5, 2) := by decide +kernel
theorem d_M_make_41 : decode b_M_make 41 = .ok (.invokevirtual 108, 3) := by decide +kernel
theorem d_M_make_44 : decode b_M_make 44 = .ok (.ifCond .eq 9, 3) := by decide +kernel
theorem d_M_make_47 : decode b_M_make 47 = .ok (.lload 5, 2) := by decide +kernel
theorem d_M_make_49 : decode b_M_make 49 = .ok (.lstore_n 3, 1) := by decide +kernel
theorem d_M_make_50 : decode b_M_make 50 = .ok (.goto 8, 3) := by decide +kernel
theorem d_M_make_53 : decode b_M_make 53 = .ok (.lload 5, 2) := by decide +kernel
theorem d_M_make_55 : decode b_M_make 55 = .ok (.lconst 1, 1) := by decide +kernel
theorem d_M_make_56 : decode b_M_make 56 = .ok (.ladd, 1) := by decide +kernel
theorem d_M_make_57 : decode b_M_make 57 = .ok (.lstore_n 1, 1) := by decide +kernel
theorem d_M_make_58 : decode b_M_make 58 = .ok (.goto (-35), 3) := by decide +kernel
theorem d_M_make_61 : decode b_M_make 61 = .ok (.aload_n 0, 1) := by decide +kernel
theorem d_M_make_62 : decode b_M_make 62 = .ok (.iconst 0, 1) := by decide +kernel
theorem d_M_make_63 : decode b_M_make 63 = .ok (.lload_n 1, 1) := by decide +kernel
theorem d_M_make_64 : decode b_M_make 64 = .ok (.lconst 1, 1) := by decide +kernel
theorem d_M_make_65 : decode b_M_make 65 = .ok (.lsub, 1) := by decide +kernel
theorem d_M_make_66 : decode b_M_make 66 = .ok (.lconst 0, 1) := by decide +kernel
theorem d_M_make_67 : decode b_M_make 67 = .ok (.invokevirtual 112, 3) := by decide +kernel
theorem d_M_make_70 : decode b_M_make 70 = .ok (.istore 5, 2) := by decide +kernel
theorem d_M_make_72 : decode b_M_make 72 = .ok (.aload_n 0, 1) := by decide +kernel
theorem d_M_make_73 : decode b_M_make 73 = .ok (.iload 5, 2) := by decide +kernel
theorem d_M_make_75 : decode b_M_make 75 = .ok (.lload_n 1, 1) := by decide +kernel
theorem d_M_make_76 : decode b_M_make 76 = .ok (.lload_n 1, 1) := by decide +kernel
theorem d_M_make_77 : decode b_M_make 77 = .ok (.invokevirtual 112, 3) := by decide +kernel
theorem d_M_make_80 : decode b_M_make 80 = .ok (.pop, 1) := by decide +kernel
theorem d_M_make_81 : decode b_M_make 81 = .ok (.return_, 1) := by decide +kernel
theorem d_M_collect_0 : decode b_M_collect 0 = .ok (.iload_n 1, 1) := by decide +kernel
theorem d_M_collect_1 : decode b_M_collect 1 = .ok (.istore 6, 2) := by decide +kernel
theorem d_M_collect_3 : decode b_M_collect 3 = .ok (.iconst 0, 1) := by decide +kernel
theorem d_M_collect_4 : decode b_M_collect 4 = .ok (.istore 7, 2) := by decide +kernel
theorem d_M_collect_6 : decode b_M_collect 6 = .ok (.iload 7, 2) := by decide +kernel
theorem d_M_collect_8 : decode b_M_collect 8 = .ok (.bipush 81, 2) := by decide +kernel
theorem d_M_collect_10 : decode b_M_collect 10 = .ok (.if_icmp .ge 133, 3) := by decide +kernel
theorem d_M_collect_13 : decode b_M_collect 13 = .ok (.iconst 0, 1) := by decide +kernel
theorem d_M_collect_14 : decode b_M_collect 14 = .ok (.istore 8, 2) := by decide +kernel
theorem d_M_collect_16 : decode b_M_collect 16 = .ok (.iload 8, 2) := by decide +kernel
theorem d_M_collect_18 : decode b_M_collect 18 = .ok (.bipush 81, 2) := by decide +kernel
theorem d_M_collect_20 : decode b_M_collect 20 = .ok (.if_icmp .ge 117, 3) := by decide +kernel
theorem d_M_collect_23 : decode b_M_collect 23 = .ok (.aload_n 0, 1) := by decide +kernel
theorem d_M_collect_24 : decode b_M_collect 24 = .ok (.getfield 22, 3) := by decide +kernel
theorem d_M_collect_27 : decode b_M_collect 27 = .ok (.iload 7, 2) := by decide +kernel
theorem d_M_collect_29 : decode b_M_collect 29 = .ok (.laload, 1) := by decide +kernel
theorem d_M_collect_30 : decode b_M_collect 30 = .ok (.aload_n 0, 1) := by decide +kernel
theorem d_M_collect_31 : decode b_M_collect 31 = .ok (.getfield 22, 3) := by decide +kernel
theorem d_M_collect_34 : decode b_M_collect 34 = .ok (.bipush 81, 2) := by decide +kernel
theorem d_M_collect_36 : decode b_M_collect 36 = .ok (.iload 8, 2) := by decide +kernel
theorem d_M_collect_38 : decode b_M_collect 38 = .ok (.iadd, 1) := by decide +kernel
theorem d_M_collect_39 : decode b_M_collect 39 = .ok (.laload, 1) := by decide +kernel
theorem d_M_collect_40 : decode b_M_collect 40 = .ok (.ladd, 1) := by decide +kernel
theorem d_M_collect_41 : decode b_M_collect 41 = .ok (.lstore 9, 2) := by decide +kernel
theorem d_M_collect_43 : decode b_M_collect 43 = .ok (.iconst 0, 1) := by decide +kernel
theorem d_M_collect_44 : decode b_M_collect 44 = .ok (.istore 11, 2) := by decide +kernel
theorem d_M_collect_46 : decode b_M_collect 46 = .ok (.iload 11, 2) := by decide +kernel
theorem d_M_collect_48 : decode b_M_collect 48 = .ok (.bipush 81, 2) := by decide +kernel
theorem d_M_collect_50 : decode b_M_collect 50 = .ok (.if_icmp .ge 81, 3) := by decide +kernel
theorem d_M_collect_53 : decode b_M_collect 53 = .ok (.lload 9, 2) := by decide +kernel
theorem d_M_collect_55 : decode b_M_collect 55 = .ok (.lload_n 2, 1) := by decide +kernel
theorem d_M_collect_56 : decode b_M_collect 56 = .ok (.lcmp, 1) := by decide +kernel
theorem d_M_collect_57 : decode b_M_collect 57 = .ok (.ifCond .gt 74, 3) := by decide +kernel
theorem d_M_collect_60 : decode b_M_collect 60 = .ok (.iload 6, 2) := by decide +kernel
theorem d_M_collect_62 : decode b_M_collect 62 = .ok (.sipush 500, 3) := by decide +kernel
theorem d_M_collect_65 : decode b_M_collect 65 = .ok (.if_icmp .ge 66, 3) := by decide +kernel
theorem d_M_collect_68 : decode b_M_collect 68 = .ok (.lload 9, 2) := by decide +kernel
theorem d_M_collect_70 : decode b_M_collect 70 = .ok (.aload_n 0, 1) := by decide +kernel
theorem d_M_collect_71 : decode b_M_collect 71 = .ok (.getfield 22, 3) := by decide +kernel
theorem d_M_collect_74 : decode b_M_collect 74 = .ok (.sipush 162, 3) := by decide +kernel
theorem d_M_collect_77 : decode b_M_collect 77 = .ok (.iload 11, 2) := by decide +kernel
theorem d_M_collect_79 : decode b_M_collect 79 = .ok (.iadd, 1) := by decide +kernel
theorem d_M_collect_80 : decode b_M_collect 80 = .ok (.laload, 1) := by decide +kernel
theorem d_M_collect_81 : decode b_M_collect 81 = .ok (.ladd, 1) := by decide +kernel
theorem d_M_collect_82 : decode b_M_collect 82 = .ok (.lstore 12, 2) := by decide +kernel
theorem d_M_collect_84 : decode b_M_collect 84 = .ok (.lload 12, 2) := by decide +kernel
theorem d_M_collect_86 : decode b_M_collect 86 = .ok (.lload 4, 2) := by decide +kernel
theorem d_M_collect_88 : decode b_M_collect 88 = .ok (.lcmp, 1) := by decide +kernel
theorem d_M_collect_89 : decode b_M_collect 89 = .ok (.ifCond .lt 36, 3) := by decide +kernel
theorem d_M_collect_92 : decode b_M_collect 92 = .ok (.lload 12, 2) := by decide +kernel
theorem d_M_collect_94 : decode b_M_collect 94 = .ok (.lload_n 2, 1) := by decide +kernel
theorem d_M_collect_95 : decode b_M_collect 95 = .ok (.lcmp, 1) := by decide +kernel
theorem d_M_collect_96 : decode b_M_collect 96 = .ok (.ifCond .gt 29, 3) := by decide +kernel
theorem d_M_collect_99 : decode b_M_collect 99 = .ok (.aload_n 0, 1) := by decide +kernel
theorem d_M_collect_100 : decode b_M_collect 100 = .ok (.iload 6, 2) := by decide +kernel
theorem d_M_collect_102 : decode b_M_collect 102 = .ok (.lload 12, 2) := by decide +kernel
theorem d_M_collect_104 : decode b_M_collect 104 = .ok (.iload 7, 2) := by decide +kernel
theorem d_M_collect_106 : decode b_M_collect 106 = .ok (.bipush 40, 2) := by decide +kernel
theorem d_M_collect_108 : decode b_M_collect 108 = .ok (.isub, 1) := by decide +kernel
theorem d_M_collect_109 : decode b_M_collect 109 = .ok (.iload 8, 2) := by decide +kernel
theorem d_M_collect_111 : decode b_M_collect 111 = .ok (.bipush 40, 2) := by decide +kernel
theorem d_M_collect_113 : decode b_M_collect 113 = .ok (.isub, 1) := by decide +kernel
theorem d_M_collect_114 : decode b_M_collect 114 = .ok (.iload 11, 2) := by decide +kernel
theorem d_M_collect_116 : decode b_M_collect 116 = .ok (.bipush 40, 2) := by decide +kernel
theorem d_M_collect_118 : decode b_M_collect 118 = .ok (.isub, 1) := by decide +kernel
theorem d_M_collect_119 : decode b_M_collect 119 = .ok (.invokevirtual 116, 3) := by decide +kernel
theorem d_M_collect_122 : decode b_M_collect 122 = .ok (.iinc 6 1, 3) := by decide +kernel
theorem d_M_collect_125 : decode b_M_collect 125 = .ok (.iinc 11 1, 3) := by decide +kernel
theorem d_M_collect_128 : decode b_M_collect 128 = .ok (.goto (-82), 3) := by decide +kernel
theorem d_M_collect_131 : decode b_M_collect 131 = .ok (.iinc 8 1, 3) := by decide +kernel
theorem d_M_collect_134 : decode b_M_collect 134 = .ok (.goto (-118), 3) := by decide +kernel
theorem d_M_collect_137 : decode b_M_collect 137 = .ok (.iinc 7 1, 3) := by decide +kernel
theorem d_M_collect_140 : decode b_M_collect 140 = .ok (.goto (-134), 3) := by decide +kernel
theorem d_M_collect_143 : decode b_M_collect 143 = .ok (.iload 6, 2) := by decide +kernel
theorem d_M_collect_145 : decode b_M_collect 145 = .ok (.ireturn, 1) := by decide +kernel
theorem d_M_put_0 : decode b_M_put 0 = .ok (.iload_n 1, 1) := by decide +kernel
theorem d_M_put_1 : decode b_M_put 1 = .ok (.istore 7, 2) := by decide +kernel
theorem d_M_put_3 : decode b_M_put 3 = .ok (.iload 7, 2) := by decide +kernel
theorem d_M_put_5 : decode b_M_put 5 = .ok (.ifCond .le 87, 3) := by decide +kernel
theorem d_M_put_8 : decode b_M_put 8 = .ok (.aload_n 0, 1) := by decide +kernel
theorem d_M_put_9 : decode b_M_put 9 = .ok (.getfield 29, 3) := by decide +kernel
theorem d_M_put_12 : decode b_M_put 12 = .ok (.iload 7, 2) := by decide +kernel
theorem d_M_put_14 : decode b_M_put 14 = .ok (.iconst 1, 1) := by decide +kernel
theorem d_M_put_15 : decode b_M_put 15 = .ok (.isub, 1) := by decide +kernel
theorem d_M_put_16 : decode b_M_put 16 = .ok (.laload, 1) := by decide +kernel
theorem d_M_put_17 : decode b_M_put 17 = .ok (.lload_n 2, 1) := by decide +kernel
theorem d_M_put_18 : decode b_M_put 18 = .ok (.lcmp, 1) := by decide +kernel
theorem d_M_put_19 : decode b_M_put 19 = .ok (.ifCond .le 73, 3) := by decide +kernel
theorem d_M_put_22 : decode b_M_put 22 = .ok (.aload_n 0, 1) := by decide +kernel
theorem d_M_put_23 : decode b_M_put 23 = .ok (.getfield 29, 3) := by decide +kernel
theorem d_M_put_26 : decode b_M_put 26 = .ok (.iload 7, 2) := by decide +kernel
theorem d_M_put_28 : decode b_M_put 28 = .ok (.aload_n 0, 1) := by decide +kernel
theorem d_M_put_29 : decode b_M_put 29 = .ok (.getfield 29, 3) := by decide +kernel
theorem d_M_put_32 : decode b_M_put 32 = .ok (.iload 7, 2) := by decide +kernel
theorem d_M_put_34 : decode b_M_put 34 = .ok (.iconst 1, 1) := by decide +kernel
theorem d_M_put_35 : decode b_M_put 35 = .ok (.isub, 1) := by decide +kernel
theorem d_M_put_36 : decode b_M_put 36 = .ok (.laload, 1) := by decide +kernel
theorem d_M_put_37 : decode b_M_put 37 = .ok (.lastore, 1) := by decide +kernel
theorem d_M_put_38 : decode b_M_put 38 = .ok (.aload_n 0, 1) := by decide +kernel
theorem d_M_put_39 : decode b_M_put 39 = .ok (.getfield 32, 3) := by decide +kernel
theorem d_M_put_42 : decode b_M_put 42 = .ok (.iload 7, 2) := by decide +kernel
theorem d_M_put_44 : decode b_M_put 44 = .ok (.aload_n 0, 1) := by decide +kernel
theorem d_M_put_45 : decode b_M_put 45 = .ok (.getfield 32, 3) := by decide +kernel
theorem d_M_put_48 : decode b_M_put 48 = .ok (.iload 7, 2) := by decide +kernel
theorem d_M_put_50 : decode b_M_put 50 = .ok (.iconst 1, 1) := by decide +kernel
theorem d_M_put_51 : decode b_M_put 51 = .ok (.isub, 1) := by decide +kernel
theorem d_M_put_52 : decode b_M_put 52 = .ok (.iaload, 1) := by decide +kernel
theorem d_M_put_53 : decode b_M_put 53 = .ok (.iastore, 1) := by decide +kernel
theorem d_M_put_54 : decode b_M_put 54 = .ok (.aload_n 0, 1) := by decide +kernel
theorem d_M_put_55 : decode b_M_put 55 = .ok (.getfield 35, 3) := by decide +kernel
theorem d_M_put_58 : decode b_M_put 58 = .ok (.iload 7, 2) := by decide +kernel
theorem d_M_put_60 : decode b_M_put 60 = .ok (.aload_n 0, 1) := by decide +kernel
theorem d_M_put_61 : decode b_M_put 61 = .ok (.getfield 35, 3) := by decide +kernel
theorem d_M_put_64 : decode b_M_put 64 = .ok (.iload 7, 2) := by decide +kernel
theorem d_M_put_66 : decode b_M_put 66 = .ok (.iconst 1, 1) := by decide +kernel
theorem d_M_put_67 : decode b_M_put 67 = .ok (.isub, 1) := by decide +kernel
theorem d_M_put_68 : decode b_M_put 68 = .ok (.iaload, 1) := by decide +kernel
theorem d_M_put_69 : decode b_M_put 69 = .ok (.iastore, 1) := by decide +kernel
theorem d_M_put_70 : decode b_M_put 70 = .ok (.aload_n 0, 1) := by decide +kernel
theorem d_M_put_71 : decode b_M_put 71 = .ok (.getfield 38, 3) := by decide +kernel
theorem d_M_put_74 : decode b_M_put 74 = .ok (.iload 7, 2) := by decide +kernel
theorem d_M_put_76 : decode b_M_put 76 = .ok (.aload_n 0, 1) := by decide +kernel
theorem d_M_put_77 : decode b_M_put 77 = .ok (.getfield 38, 3) := by decide +kernel
theorem d_M_put_80 : decode b_M_put 80 = .ok (.iload 7, 2) := by decide +kernel
theorem d_M_put_82 : decode b_M_put 82 = .ok (.iconst 1, 1) := by decide +kernel
theorem d_M_put_83 : decode b_M_put 83 = .ok (.isub, 1) := by decide +kernel
theorem d_M_put_84 : decode b_M_put 84 = .ok (.iaload, 1) := by decide +kernel
theorem d_M_put_85 : decode b_M_put 85 = .ok (.iastore, 1) := by decide +kernel
theorem d_M_put_86 : decode b_M_put 86 = .ok (.iinc 7 (-1), 3) := by decide +kernel
theorem d_M_put_89 : decode b_M_put 89 = .ok (.goto (-86), 3) := by decide +kernel
theorem d_M_put_92 : decode b_M_put 92 = .ok (.aload_n 0, 1) := by decide +kernel
theorem d_M_put_93 : decode b_M_put 93 = .ok (.getfield 29, 3) := by decide +kernel
theorem d_M_put_96 : decode b_M_put 96 = .ok (.iload 7, 2) := by decide +kernel
theorem d_M_put_98 : decode b_M_put 98 = .ok (.lload_n 2, 1) := by decide +kernel
theorem d_M_put_99 : decode b_M_put 99 = .ok (.lastore, 1) := by decide +kernel
theorem d_M_put_100 : decode b_M_put 100 = .ok (.aload_n 0, 1) := by decide +kernel
theorem d_M_put_101 : decode b_M_put 101 = .ok (.getfield 32, 3) := by decide +kernel
theorem d_M_put_104 : decode b_M_put 104 = .ok (.iload 7, 2) := by decide +kernel
theorem d_M_put_106 : decode b_M_put 106 = .ok (.iload 4, 2) := by decide +kernel
theorem d_M_put_108 : decode b_M_put 108 = .ok (.iastore, 1) := by decide +kernel
theorem d_M_put_109 : decode b_M_put 109 = .ok (.aload_n 0, 1) := by decide +kernel
theorem d_M_put_110 : decode b_M_put 110 = .ok (.getfield 35, 3) := by decide +kernel
theorem d_M_put_113 : decode b_M_put 113 = .ok (.iload 7, 2) := by decide +kernel
theorem d_M_put_115 : decode b_M_put 115 = .ok (.iload 5, 2) := by decide +kernel
theorem d_M_put_117 : decode b_M_put 117 = .ok (.iastore, 1) := by decide +kernel
theorem d_M_put_118 : decode b_M_put 118 = .ok (.aload_n 0, 1) := by decide +kernel
theorem d_M_put_119 : decode b_M_put 119 = .ok (.getfield 38, 3) := by decide +kernel
theorem d_M_put_122 : decode b_M_put 122 = .ok (.iload 7, 2) := by decide +kernel
theorem d_M_put_124 : decode b_M_put 124 = .ok (.iload 6, 2) := by decide +kernel
theorem d_M_put_126 : decode b_M_put 126 = .ok (.iastore, 1) := by decide +kernel
theorem d_M_put_127 : decode b_M_put 127 = .ok (.return_, 1) := by decide +kernel
theorem d_M_echo_0 : decode b_M_echo 0 = .ok (.aload_n 0, 1) := by decide +kernel
theorem d_M_echo_1 : decode b_M_echo 1 = .ok (.iload_n 1, 1) := by decide +kernel
theorem d_M_echo_2 : decode b_M_echo 2 = .ok (.i2l, 1) := by decide +kernel
theorem d_M_echo_3 : decode b_M_echo 3 = .ok (.lconst 0, 1) := by decide +kernel
theorem d_M_echo_4 : decode b_M_echo 4 = .ok (.ldc2_w 120, 3) := by decide +kernel
theorem d_M_echo_7 : decode b_M_echo 7 = .ok (.invokestatic 45, 3) := by decide +kernel
theorem d_M_echo_10 : decode b_M_echo 10 = .ok (.ifCond .eq 19, 3) := by decide +kernel
theorem d_M_echo_13 : decode b_M_echo 13 = .ok (.iload_n 2, 1) := by decide +kernel
theorem d_M_echo_14 : decode b_M_echo 14 = .ok (.i2l, 1) := by decide +kernel
theorem d_M_echo_15 : decode b_M_echo 15 = .ok (.lconst 0, 1) := by decide +kernel
theorem d_M_echo_16 : decode b_M_echo 16 = .ok (.ldc2_w 122, 3) := by decide +kernel
theorem d_M_echo_19 : decode b_M_echo 19 = .ok (.invokestatic 45, 3) := by decide +kernel
theorem d_M_echo_22 : decode b_M_echo 22 = .ok (.ifCond .eq 7, 3) := by decide +kernel
theorem d_M_echo_25 : decode b_M_echo 25 = .ok (.iconst 0, 1) := by decide +kernel
theorem d_M_echo_26 : decode b_M_echo 26 = .ok (.goto 4, 3) := by decide +kernel
theorem d_M_echo_29 : decode b_M_echo 29 = .ok (.iconst 1, 1) := by decide +kernel
theorem d_M_echo_30 : decode b_M_echo 30 = .ok (.putfield 41, 3) := by decide +kernel
theorem d_M_echo_33 : decode b_M_echo 33 = .ok (.aload_n 0, 1) := by decide +kernel
theorem d_M_echo_34 : decode b_M_echo 34 = .ok (.getfield 41, 3) := by decide +kernel
theorem d_M_echo_37 : decode b_M_echo 37 = .ok (.ifCond .le 5, 3) := by decide +kernel
theorem d_M_echo_40 : decode b_M_echo 40 = .ok (.lconst 0, 1) := by decide +kernel
theorem d_M_echo_41 : decode b_M_echo 41 = .ok (.lreturn, 1) := by decide +kernel
theorem d_M_echo_42 : decode b_M_echo 42 = .ok (.aload_n 0, 1) := by decide +kernel
theorem d_M_echo_43 : decode b_M_echo 43 = .ok (.invokevirtual 124, 3) := by decide +kernel
theorem d_M_echo_46 : decode b_M_echo 46 = .ok (.iload_n 2, 1) := by decide +kernel
theorem d_M_echo_47 : decode b_M_echo 47 = .ok (.iconst 4, 1) := by decide +kernel
theorem d_M_echo_48 : decode b_M_echo 48 = .ok (.if_icmp .ge 29, 3) := by decide +kernel
theorem d_M_echo_51 : decode b_M_echo 51 = .ok (.aload_n 0, 1) := by decide +kernel
theorem d_M_echo_52 : decode b_M_echo 52 = .ok (.aload_n 0, 1) := by decide +kernel
theorem d_M_echo_53 : decode b_M_echo 53 = .ok (.getfield 32, 3) := by decide +kernel
theorem d_M_echo_56 : decode b_M_echo 56 = .ok (.iload_n 1, 1) := by decide +kernel
theorem d_M_echo_57 : decode b_M_echo 57 = .ok (.iaload, 1) := by decide +kernel
theorem d_M_echo_58 : decode b_M_echo 58 = .ok (.aload_n 0, 1) := by decide +kernel
theorem d_M_echo_59 : decode b_M_echo 59 = .ok (.getfield 35, 3) := by decide +kernel
theorem d_M_echo_62 : decode b_M_echo 62 = .ok (.iload_n 1, 1) := by decide +kernel
theorem d_M_echo_63 : decode b_M_echo 63 = .ok (.iaload, 1) := by decide +kernel
theorem d_M_echo_64 : decode b_M_echo 64 = .ok (.aload_n 0, 1) := by decide +kernel
theorem d_M_echo_65 : decode b_M_echo 65 = .ok (.getfield 38, 3) := by decide +kernel
theorem d_M_echo_68 : decode b_M_echo 68 = .ok (.iload_n 1, 1) := by decide +kernel
theorem d_M_echo_69 : decode b_M_echo 69 = .ok (.iaload, 1) := by decide +kernel
theorem d_M_echo_70 : decode b_M_echo 70 = .ok (.iload_n 2, 1) := by decide +kernel
theorem d_M_echo_71 : decode b_M_echo 71 = .ok (.invokevirtual 97, 3) := by decide +kernel
theorem d_M_echo_74 : decode b_M_echo 74 = .ok (.goto 40, 3) := by decide +kernel
theorem d_M_echo_77 : decode b_M_echo 77 = .ok (.iload_n 2, 1) := by decide +kernel
theorem d_M_echo_78 : decode b_M_echo 78 = .ok (.iconst 4, 1) := by decide +kernel
theorem d_M_echo_79 : decode b_M_echo 79 = .ok (.if_icmp .ne 13, 3) := by decide +kernel
theorem d_M_echo_82 : decode b_M_echo 82 = .ok (.aload_n 0, 1) := by decide +kernel
theorem d_M_echo_83 : decode b_M_echo 83 = .ok (.getfield 32, 3) := by decide +kernel
theorem d_M_echo_86 : decode b_M_echo 86 = .ok (.iload_n 1, 1) := by decide +kernel
theorem d_M_echo_87 : decode b_M_echo 87 = .ok (.iaload, 1) := by decide +kernel
theorem d_M_echo_88 : decode b_M_echo 88 = .ok (.i2l, 1) := by decide +kernel
theorem d_M_echo_89 : decode b_M_echo 89 = .ok (.goto 25, 3) := by decide +kernel
theorem d_M_echo_92 : decode b_M_echo 92 = .ok (.iload_n 2, 1) := by decide +kernel
theorem d_M_echo_93 : decode b_M_echo 93 = .ok (.iconst 5, 1) := by decide +kernel
theorem d_M_echo_94 : decode b_M_echo 94 = .ok (.if_icmp .ne 13, 3) := by decide +kernel
theorem d_M_echo_97 : decode b_M_echo 97 = .ok (.aload_n 0, 1) := by decide +kernel
theorem d_M_echo_98 : decode b_M_echo 98 = .ok (.getfield 35, 3) := by decide +kernel
theorem d_M_echo_101 : decode b_M_echo 101 = .ok (.iload_n 1, 1) := by decide +kernel
theorem d_M_echo_102 : decode b_M_echo 102 = .ok (.iaload, 1) := by decide +kernel
theorem d_M_echo_103 : decode b_M_echo 103 = .ok (.i2l, 1) := by decide +kernel
theorem d_M_echo_104 : decode b_M_echo 104 = .ok (.goto 10, 3) := by decide +kernel
theorem d_M_echo_107 : decode b_M_echo 107 = .ok (.aload_n 0, 1) := by decide +kernel
theorem d_M_echo_108 : decode b_M_echo 108 = .ok (.getfield 38, 3) := by decide +kernel
theorem d_M_echo_111 : decode b_M_echo 111 = .ok (.iload_n 1, 1) := by decide +kernel
theorem d_M_echo_112 : decode b_M_echo 112 = .ok (.iaload, 1) := by decide +kernel
theorem d_M_echo_113 : decode b_M_echo 113 = .ok (.i2l, 1) := by decide +kernel
theorem d_M_echo_114 : decode b_M_echo 114 = .ok (.lreturn, 1) := by decide +kernel
theorem d_M_place_0 : decode b_M_place 0 = .ok (.aload_n 0, 1) := by decide +kernel
theorem d_M_place_1 : decode b_M_place 1 = .ok (.iload_n 1, 1) := by decide +kernel
theorem d_M_place_2 : decode b_M_place 2 = .ok (.iload_n 2, 1) := by decide +kernel
theorem d_M_place_3 : decode b_M_place 3 = .ok (.iload_n 3, 1) := by decide +kernel
theorem d_M_place_4 : decode b_M_place 4 = .ok (.invokestatic 92, 3) := by decide +kernel
theorem d_M_place_7 : decode b_M_place 7 = .ok (.ifCond .eq 7, 3) := by decide +kernel
theorem d_M_place_10 : decode b_M_place 10 = .ok (.iconst 0, 1) := by decide +kernel
theorem d_M_place_11 : decode b_M_place 11 = .ok (.goto 4, 3) := by decide +kernel
theorem d_M_place_14 : decode b_M_place 14 = .ok (.iconst 1, 1) := by decide +kernel
theorem d_M_place_15 : decode b_M_place 15 = .ok (.putfield 41, 3) := by decide +kernel
theorem d_M_place_18 : decode b_M_place 18 = .ok (.aload_n 0, 1) := by decide +kernel
theorem d_M_place_19 : decode b_M_place 19 = .ok (.getfield 41, 3) := by decide +kernel
theorem d_M_place_22 : decode b_M_place 22 = .ok (.ifCond .le 5, 3) := by decide +kernel
theorem d_M_place_25 : decode b_M_place 25 = .ok (.iconst 0, 1) := by decide +kernel
theorem d_M_place_26 : decode b_M_place 26 = .ok (.ireturn, 1) := by decide +kernel
theorem d_M_place_27 : decode b_M_place 27 = .ok (.aload_n 0, 1) := by decide +kernel
theorem d_M_place_28 : decode b_M_place 28 = .ok (.invokevirtual 124, 3) := by decide +kernel
theorem d_M_place_31 : decode b_M_place 31 = .ok (.iconst (-1), 1) := by decide +kernel
theorem d_M_place_32 : decode b_M_place 32 = .ok (.istore 4, 2) := by decide +kernel
theorem d_M_place_34 : decode b_M_place 34 = .ok (.iconst 0, 1) := by decide +kernel
theorem d_M_place_35 : decode b_M_place 35 = .ok (.istore 5, 2) := by decide +kernel
theorem d_M_place_37 : decode b_M_place 37 = .ok (.iload 5, 2) := by decide +kernel
theorem d_M_place_39 : decode b_M_place 39 = .ok (.sipush 500, 3) := by decide +kernel
theorem d_M_place_42 : decode b_M_place 42 = .ok (.if_icmp .ge 51, 3) := by decide +kernel
theorem d_M_place_45 : decode b_M_place 45 = .ok (.aload_n 0, 1) := by decide +kernel
theorem d_M_place_46 : decode b_M_place 46 = .ok (.getfield 32, 3) := by decide +kernel
theorem d_M_place_49 : decode b_M_place 49 = .ok (.iload 5, 2) := by decide +kernel
theorem d_M_place_51 : decode b_M_place 51 = .ok (.iaload, 1) := by decide +kernel
theorem d_M_place_52 : decode b_M_place 52 = .ok (.iload_n 1, 1) := by decide +kernel
theorem d_M_place_53 : decode b_M_place 53 = .ok (.if_icmp .ne 30, 3) := by decide +kernel
theorem d_M_place_56 : decode b_M_place 56 = .ok (.aload_n 0, 1) := by decide +kernel
theorem d_M_place_57 : decode b_M_place 57 = .ok (.getfield 35, 3) := by decide +kernel
theorem d_M_place_60 : decode b_M_place 60 = .ok (.iload 5, 2) := by decide +kernel
theorem d_M_place_62 : decode b_M_place 62 = .ok (.iaload, 1) := by decide +kernel
theorem d_M_place_63 : decode b_M_place 63 = .ok (.iload_n 2, 1) := by decide +kernel
theorem d_M_place_64 : decode b_M_place 64 = .ok (.if_icmp .ne 19, 3) := by decide +kernel
theorem d_M_place_67 : decode b_M_place 67 = .ok (.aload_n 0, 1) := by decide +kernel
theorem d_M_place_68 : decode b_M_place 68 = .ok (.getfield 38, 3) := by decide +kernel
theorem d_M_place_71 : decode b_M_place 71 = .ok (.iload 5, 2) := by decide +kernel
theorem d_M_place_73 : decode b_M_place 73 = .ok (.iaload, 1) := by decide +kernel
theorem d_M_place_74 : decode b_M_place 74 = .ok (.iload_n 3, 1) := by decide +kernel
theorem d_M_place_75 : decode b_M_place 75 = .ok (.if_icmp .ne 8, 3) := by decide +kernel
theorem d_M_place_78 : decode b_M_place 78 = .ok (.iload 5, 2) := by decide +kernel
theorem d_M_place_80 : decode b_M_place 80 = .ok (.goto 5, 3) := by decide +kernel
theorem d_M_place_83 : decode b_M_place 83 = .ok (.iload 4, 2) := by decide +kernel
theorem d_M_place_85 : decode b_M_place 85 = .ok (.istore 4, 2) := by decide +kernel
theorem d_M_place_87 : decode b_M_place 87 = .ok (.iinc 5 1, 3) := by decide +kernel
theorem d_M_place_90 : decode b_M_place 90 = .ok (.goto (-53), 3) := by decide +kernel
theorem d_M_place_93 : decode b_M_place 93 = .ok (.iload 4, 2) := by decide +kernel
theorem d_M_place_95 : decode b_M_place 95 = .ok (.ireturn, 1) := by decide +kernel
theorem d_M_countUntil_0 : decode b_M_countUntil 0 = .ok (.aload_n 0, 1) := by decide +kernel
theorem d_M_countUntil_1 : decode b_M_countUntil 1 = .ok (.invokevirtual 124, 3) := by decide +kernel
theorem d_M_countUntil_4 : decode b_M_countUntil 4 = .ok (.iconst 0, 1) := by decide +kernel
theorem d_M_countUntil_5 : decode b_M_countUntil 5 = .ok (.istore_n 3, 1) := by decide +kernel
theorem d_M_countUntil_6 : decode b_M_countUntil 6 = .ok (.iload_n 3, 1) := by decide +kernel
theorem d_M_countUntil_7 : decode b_M_countUntil 7 = .ok (.sipush 500, 3) := by decide +kernel
theorem d_M_countUntil_10 : decode b_M_countUntil 10 = .ok (.if_icmp .ge 20, 3) := by decide +kernel
theorem d_M_countUntil_13 : decode b_M_countUntil 13 = .ok (.aload_n 0, 1) := by decide +kernel
theorem d_M_countUntil_14 : decode b_M_countUntil 14 = .ok (.getfield 29, 3) := by decide +kernel
theorem d_M_countUntil_17 : decode b_M_countUntil 17 = .ok (.iload_n 3, 1) := by decide +kernel
theorem d_M_countUntil_18 : decode b_M_countUntil 18 = .ok (.laload, 1) := by decide +kernel
theorem d_M_countUntil_19 : decode b_M_countUntil 19 = .ok (.lload_n 1, 1) := by decide +kernel
theorem d_M_countUntil_20 : decode b_M_countUntil 20 = .ok (.lcmp, 1) := by decide +kernel
