theorem d_M_init_0 : decode b_M_init 0 = .ok (.aload_n 0, 1) := by decide +kernel
theorem d_M_init_1 : decode b_M_init 1 = .ok (.invokespecial 1, 3) := by decide +kernel
theorem d_M_init_4 : decode b_M_init 4 = .ok (.aload_n 0, 1) := by decide +kernel
theorem d_M_init_5 : decode b_M_init 5 = .ok (.iconst 3, 1) := by decide +kernel
theorem d_M_init_6 : decode b_M_init 6 = .ok (.newarray .int, 2) := by decide +kernel
theorem d_M_init_8 : decode b_M_init 8 = .ok (.putfield 7, 3) := by decide +kernel
theorem d_M_init_11 : decode b_M_init 11 = .ok (.aload_n 0, 1) := by decide +kernel
theorem d_M_init_12 : decode b_M_init 12 = .ok (.iconst 3, 1) := by decide +kernel
theorem d_M_init_13 : decode b_M_init 13 = .ok (.newarray .int, 2) := by decide +kernel
theorem d_M_init_15 : decode b_M_init 15 = .ok (.putfield 13, 3) := by decide +kernel
theorem d_M_init_18 : decode b_M_init 18 = .ok (.aload_n 0, 1) := by decide +kernel
theorem d_M_init_19 : decode b_M_init 19 = .ok (.iconst 3, 1) := by decide +kernel
theorem d_M_init_20 : decode b_M_init 20 = .ok (.newarray .int, 2) := by decide +kernel
theorem d_M_init_22 : decode b_M_init 22 = .ok (.putfield 16, 3) := by decide +kernel
theorem d_M_init_25 : decode b_M_init 25 = .ok (.aload_n 0, 1) := by decide +kernel
theorem d_M_init_26 : decode b_M_init 26 = .ok (.bipush 6, 2) := by decide +kernel
theorem d_M_init_28 : decode b_M_init 28 = .ok (.newarray .int, 2) := by decide +kernel
theorem d_M_init_30 : decode b_M_init 30 = .ok (.putfield 19, 3) := by decide +kernel
theorem d_M_init_33 : decode b_M_init 33 = .ok (.aload_n 0, 1) := by decide +kernel
theorem d_M_init_34 : decode b_M_init 34 = .ok (.sipush 243, 3) := by decide +kernel
theorem d_M_init_37 : decode b_M_init 37 = .ok (.newarray .long, 2) := by decide +kernel
theorem d_M_init_39 : decode b_M_init 39 = .ok (.putfield 22, 3) := by decide +kernel
theorem d_M_init_42 : decode b_M_init 42 = .ok (.aload_n 0, 1) := by decide +kernel
theorem d_M_init_43 : decode b_M_init 43 = .ok (.sipush 243, 3) := by decide +kernel
theorem d_M_init_46 : decode b_M_init 46 = .ok (.newarray .long, 2) := by decide +kernel
theorem d_M_init_48 : decode b_M_init 48 = .ok (.putfield 26, 3) := by decide +kernel
theorem d_M_init_51 : decode b_M_init 51 = .ok (.aload_n 0, 1) := by decide +kernel
theorem d_M_init_52 : decode b_M_init 52 = .ok (.sipush 500, 3) := by decide +kernel
theorem d_M_init_55 : decode b_M_init 55 = .ok (.newarray .long, 2) := by decide +kernel
theorem d_M_init_57 : decode b_M_init 57 = .ok (.putfield 29, 3) := by decide +kernel
theorem d_M_init_60 : decode b_M_init 60 = .ok (.aload_n 0, 1) := by decide +kernel
theorem d_M_init_61 : decode b_M_init 61 = .ok (.sipush 500, 3) := by decide +kernel
theorem d_M_init_64 : decode b_M_init 64 = .ok (.newarray .int, 2) := by decide +kernel
theorem d_M_init_66 : decode b_M_init 66 = .ok (.putfield 32, 3) := by decide +kernel
theorem d_M_init_69 : decode b_M_init 69 = .ok (.aload_n 0, 1) := by decide +kernel
theorem d_M_init_70 : decode b_M_init 70 = .ok (.sipush 500, 3) := by decide +kernel
theorem d_M_init_73 : decode b_M_init 73 = .ok (.newarray .int, 2) := by decide +kernel
theorem d_M_init_75 : decode b_M_init 75 = .ok (.putfield 35, 3) := by decide +kernel
theorem d_M_init_78 : decode b_M_init 78 = .ok (.aload_n 0, 1) := by decide +kernel
theorem d_M_init_79 : decode b_M_init 79 = .ok (.sipush 500, 3) := by decide +kernel
theorem d_M_init_82 : decode b_M_init 82 = .ok (.newarray .int, 2) := by decide +kernel
theorem d_M_init_84 : decode b_M_init 84 = .ok (.putfield 38, 3) := by decide +kernel
theorem d_M_init_87 : decode b_M_init 87 = .ok (.aload_n 0, 1) := by decide +kernel
theorem d_M_init_88 : decode b_M_init 88 = .ok (.getfield 7, 3) := by decide +kernel
theorem d_M_init_91 : decode b_M_init 91 = .ok (.iconst 0, 1) := by decide +kernel
theorem d_M_init_92 : decode b_M_init 92 = .ok (.iload_n 1, 1) := by decide +kernel
theorem d_M_init_93 : decode b_M_init 93 = .ok (.iconst 1, 1) := by decide +kernel
theorem d_M_init_94 : decode b_M_init 94 = .ok (.if_icmp .ge 7, 3) := by decide +kernel
theorem d_M_init_97 : decode b_M_init 97 = .ok (.iconst 1, 1) := by decide +kernel
theorem d_M_init_98 : decode b_M_init 98 = .ok (.goto 17, 3) := by decide +kernel
theorem d_M_init_101 : decode b_M_init 101 = .ok (.iload_n 1, 1) := by decide +kernel
theorem d_M_init_102 : decode b_M_init 102 = .ok (.sipush 1000, 3) := by decide +kernel
theorem d_M_init_105 : decode b_M_init 105 = .ok (.if_icmp .le 9, 3) := by decide +kernel
theorem d_M_init_108 : decode b_M_init 108 = .ok (.sipush 1000, 3) := by decide +kernel
theorem d_M_init_111 : decode b_M_init 111 = .ok (.goto 4, 3) := by decide +kernel
theorem d_M_init_114 : decode b_M_init 114 = .ok (.iload_n 1, 1) := by decide +kernel
theorem d_M_init_115 : decode b_M_init 115 = .ok (.iastore, 1) := by decide +kernel
theorem d_M_init_116 : decode b_M_init 116 = .ok (.aload_n 0, 1) := by decide +kernel
theorem d_M_init_117 : decode b_M_init 117 = .ok (.getfield 7, 3) := by decide +kernel
theorem d_M_init_120 : decode b_M_init 120 = .ok (.iconst 1, 1) := by decide +kernel
theorem d_M_init_121 : decode b_M_init 121 = .ok (.iload_n 2, 1) := by decide +kernel
theorem d_M_init_122 : decode b_M_init 122 = .ok (.iconst 1, 1) := by decide +kernel
theorem d_M_init_123 : decode b_M_init 123 = .ok (.if_icmp .ge 7, 3) := by decide +kernel
theorem d_M_init_126 : decode b_M_init 126 = .ok (.iconst 1, 1) := by decide +kernel
theorem d_M_init_127 : decode b_M_init 127 = .ok (.goto 17, 3) := by decide +kernel
theorem d_M_init_130 : decode b_M_init 130 = .ok (.iload_n 2, 1) := by decide +kernel
theorem d_M_init_131 : decode b_M_init 131 = .ok (.sipush 1000, 3) := by decide +kernel
theorem d_M_init_134 : decode b_M_init 134 = .ok (.if_icmp .le 9, 3) := by decide +kernel
theorem d_M_init_137 : decode b_M_init 137 = .ok (.sipush 1000, 3) := by decide +kernel
theorem d_M_init_140 : decode b_M_init 140 = .ok (.goto 4, 3) := by decide +kernel
theorem d_M_init_143 : decode b_M_init 143 = .ok (.iload_n 2, 1) := by decide +kernel
theorem d_M_init_144 : decode b_M_init 144 = .ok (.iastore, 1) := by decide +kernel
theorem d_M_init_145 : decode b_M_init 145 = .ok (.aload_n 0, 1) := by decide +kernel
theorem d_M_init_146 : decode b_M_init 146 = .ok (.getfield 7, 3) := by decide +kernel
theorem d_M_init_149 : decode b_M_init 149 = .ok (.iconst 2, 1) := by decide +kernel
theorem d_M_init_150 : decode b_M_init 150 = .ok (.iload_n 3, 1) := by decide +kernel
theorem d_M_init_151 : decode b_M_init 151 = .ok (.iconst 1, 1) := by decide +kernel
theorem d_M_init_152 : decode b_M_init 152 = .ok (.if_icmp .ge 7, 3) := by decide +kernel
theorem d_M_init_155 : decode b_M_init 155 = .ok (.iconst 1, 1) := by decide +kernel
theorem d_M_init_156 : decode b_M_init 156 = .ok (.goto 17, 3) := by decide +kernel
theorem d_M_init_159 : decode b_M_init 159 = .ok (.iload_n 3, 1) := by decide +kernel
theorem d_M_init_160 : decode b_M_init 160 = .ok (.sipush 1000, 3) := by decide +kernel
theorem d_M_init_163 : decode b_M_init 163 = .ok (.if_icmp .le 9, 3) := by decide +kernel
theorem d_M_init_166 : decode b_M_init 166 = .ok (.sipush 1000, 3) := by decide +kernel
theorem d_M_init_169 : decode b_M_init 169 = .ok (.goto 4, 3) := by decide +kernel
theorem d_M_init_172 : decode b_M_init 172 = .ok (.iload_n 3, 1) := by decide +kernel
theorem d_M_init_173 : decode b_M_init 173 = .ok (.iastore, 1) := by decide +kernel
theorem d_M_init_174 : decode b_M_init 174 = .ok (.iconst 0, 1) := by decide +kernel
theorem d_M_init_175 : decode b_M_init 175 = .ok (.istore 4, 2) := by decide +kernel
theorem d_M_init_177 : decode b_M_init 177 = .ok (.iload 4, 2) := by decide +kernel
theorem d_M_init_179 : decode b_M_init 179 = .ok (.bipush 6, 2) := by decide +kernel
theorem d_M_init_181 : decode b_M_init 181 = .ok (.if_icmp .ge 19, 3) := by decide +kernel
theorem d_M_init_184 : decode b_M_init 184 = .ok (.aload_n 0, 1) := by decide +kernel
theorem d_M_init_185 : decode b_M_init 185 = .ok (.getfield 19, 3) := by decide +kernel
theorem d_M_init_188 : decode b_M_init 188 = .ok (.iload 4, 2) := by decide +kernel
theorem d_M_init_190 : decode b_M_init 190 = .ok (.sipush 900, 3) := by decide +kernel
theorem d_M_init_193 : decode b_M_init 193 = .ok (.iastore, 1) := by decide +kernel
theorem d_M_init_194 : decode b_M_init 194 = .ok (.iinc 4 1, 3) := by decide +kernel
theorem d_M_init_197 : decode b_M_init 197 = .ok (.goto (-20), 3) := by decide +kernel
theorem d_M_init_200 : decode b_M_init 200 = .ok (.return_, 1) := by decide +kernel
theorem d_M_thrown_0 : decode b_M_thrown 0 = .ok (.aload_n 0, 1) := by decide +kernel
theorem d_M_thrown_1 : decode b_M_thrown 1 = .ok (.getfield 41, 3) := by decide +kernel
theorem d_M_thrown_4 : decode b_M_thrown 4 = .ok (.ireturn, 1) := by decide +kernel
theorem d_M_in_0 : decode b_M_in 0 = .ok (.lload_n 0, 1) := by decide +kernel
theorem d_M_in_1 : decode b_M_in 1 = .ok (.lload_n 2, 1) := by decide +kernel
theorem d_M_in_2 : decode b_M_in 2 = .ok (.lcmp, 1) := by decide +kernel
theorem d_M_in_3 : decode b_M_in 3 = .ok (.ifCond .lt 14, 3) := by decide +kernel
theorem d_M_in_6 : decode b_M_in 6 = .ok (.lload_n 0, 1) := by decide +kernel
theorem d_M_in_7 : decode b_M_in 7 = .ok (.lload 4, 2) := by decide +kernel
theorem d_M_in_9 : decode b_M_in 9 = .ok (.lcmp, 1) := by decide +kernel
theorem d_M_in_10 : decode b_M_in 10 = .ok (.ifCond .gt 7, 3) := by decide +kernel
theorem d_M_in_13 : decode b_M_in 13 = .ok (.iconst 1, 1) := by decide +kernel
theorem d_M_in_14 : decode b_M_in 14 = .ok (.goto 4, 3) := by decide +kernel
theorem d_M_in_17 : decode b_M_in 17 = .ok (.iconst 0, 1) := by decide +kernel
theorem d_M_in_18 : decode b_M_in 18 = .ok (.ireturn, 1) := by decide +kernel
theorem d_M_isPoint_0 : decode b_M_isPoint 0 = .ok (.iload_n 1, 1) := by decide +kernel
theorem d_M_isPoint_1 : decode b_M_isPoint 1 = .ok (.i2l, 1) := by decide +kernel
theorem d_M_isPoint_2 : decode b_M_isPoint 2 = .ok (.lconst 0, 1) := by decide +kernel
theorem d_M_isPoint_3 : decode b_M_isPoint 3 = .ok (.aload_n 0, 1) := by decide +kernel
theorem d_M_isPoint_4 : decode b_M_isPoint 4 = .ok (.getfield 7, 3) := by decide +kernel
theorem d_M_isPoint_7 : decode b_M_isPoint 7 = .ok (.iconst 0, 1) := by decide +kernel
theorem d_M_isPoint_8 : decode b_M_isPoint 8 = .ok (.iaload, 1) := by decide +kernel
theorem d_M_isPoint_9 : decode b_M_isPoint 9 = .ok (.i2l, 1) := by decide +kernel
theorem d_M_isPoint_10 : decode b_M_isPoint 10 = .ok (.invokestatic 45, 3) := by decide +kernel
theorem d_M_isPoint_13 : decode b_M_isPoint 13 = .ok (.ifCond .eq 39, 3) := by decide +kernel
theorem d_M_isPoint_16 : decode b_M_isPoint 16 = .ok (.iload_n 2, 1) := by decide +kernel
theorem d_M_isPoint_17 : decode b_M_isPoint 17 = .ok (.i2l, 1) := by decide +kernel
theorem d_M_isPoint_18 : decode b_M_isPoint 18 = .ok (.lconst 0, 1) := by decide +kernel
theorem d_M_isPoint_19 : decode b_M_isPoint 19 = .ok (.aload_n 0, 1) := by decide +kernel
theorem d_M_isPoint_20 : decode b_M_isPoint 20 = .ok (.getfield 7, 3) := by decide +kernel
theorem d_M_isPoint_23 : decode b_M_isPoint 23 = .ok (.iconst 1, 1) := by decide +kernel
theorem d_M_isPoint_24 : decode b_M_isPoint 24 = .ok (.iaload, 1) := by decide +kernel
theorem d_M_isPoint_25 : decode b_M_isPoint 25 = .ok (.i2l, 1) := by decide +kernel
theorem d_M_isPoint_26 : decode b_M_isPoint 26 = .ok (.invokestatic 45, 3) := by decide +kernel
theorem d_M_isPoint_29 : decode b_M_isPoint 29 = .ok (.ifCond .eq 23, 3) := by decide +kernel
theorem d_M_isPoint_32 : decode b_M_isPoint 32 = .ok (.iload_n 3, 1) := by decide +kernel
theorem d_M_isPoint_33 : decode b_M_isPoint 33 = .ok (.i2l, 1) := by decide +kernel
theorem d_M_isPoint_34 : decode b_M_isPoint 34 = .ok (.lconst 0, 1) := by decide +kernel
theorem d_M_isPoint_35 : decode b_M_isPoint 35 = .ok (.aload_n 0, 1) := by decide +kernel
theorem d_M_isPoint_36 : decode b_M_isPoint 36 = .ok (.getfield 7, 3) := by decide +kernel
theorem d_M_isPoint_39 : decode b_M_isPoint 39 = .ok (.iconst 2, 1) := by decide +kernel
theorem d_M_isPoint_40 : decode b_M_isPoint 40 = .ok (.iaload, 1) := by decide +kernel
theorem d_M_isPoint_41 : decode b_M_isPoint 41 = .ok (.i2l, 1) := by decide +kernel
theorem d_M_isPoint_42 : decode b_M_isPoint 42 = .ok (.invokestatic 45, 3) := by decide +kernel
theorem d_M_isPoint_45 : decode b_M_isPoint 45 = .ok (.ifCond .eq 7, 3) := by decide +kernel
theorem d_M_isPoint_48 : decode b_M_isPoint 48 = .ok (.iconst 1, 1) := by decide +kernel
theorem d_M_isPoint_49 : decode b_M_isPoint 49 = .ok (.goto 4, 3) := by decide +kernel
theorem d_M_isPoint_52 : decode b_M_isPoint 52 = .ok (.iconst 0, 1) := by decide +kernel
theorem d_M_isPoint_53 : decode b_M_isPoint 53 = .ok (.ireturn, 1) := by decide +kernel
theorem d_M_source_0 : decode b_M_source 0 = .ok (.aload_n 0, 1) := by decide +kernel
theorem d_M_source_1 : decode b_M_source 1 = .ok (.aload_n 0, 1) := by decide +kernel
theorem d_M_source_2 : decode b_M_source 2 = .ok (.iload_n 1, 1) := by decide +kernel
theorem d_M_source_3 : decode b_M_source 3 = .ok (.iload_n 2, 1) := by decide +kernel
theorem d_M_source_4 : decode b_M_source 4 = .ok (.iload_n 3, 1) := by decide +kernel
theorem d_M_source_5 : decode b_M_source 5 = .ok (.invokevirtual 49, 3) := by decide +kernel
theorem d_M_source_8 : decode b_M_source 8 = .ok (.ifCond .eq 7, 3) := by decide +kernel
theorem d_M_source_11 : decode b_M_source 11 = .ok (.iconst 0, 1) := by decide +kernel
theorem d_M_source_12 : decode b_M_source 12 = .ok (.goto 4, 3) := by decide +kernel
theorem d_M_source_15 : decode b_M_source 15 = .ok (.iconst 1, 1) := by decide +kernel
theorem d_M_source_16 : decode b_M_source 16 = .ok (.putfield 41, 3) := by decide +kernel
theorem d_M_source_19 : decode b_M_source 19 = .ok (.aload_n 0, 1) := by decide +kernel
theorem d_M_source_20 : decode b_M_source 20 = .ok (.getfield 41, 3) := by decide +kernel
theorem d_M_source_23 : decode b_M_source 23 = .ok (.ifCond .ne 29, 3) := by decide +kernel
theorem d_M_source_26 : decode b_M_source 26 = .ok (.aload_n 0, 1) := by decide +kernel
theorem d_M_source_27 : decode b_M_source 27 = .ok (.getfield 13, 3) := by decide +kernel
theorem d_M_source_30 : decode b_M_source 30 = .ok (.iconst 0, 1) := by decide +kernel
theorem d_M_source_31 : decode b_M_source 31 = .ok (.iload_n 1, 1) := by decide +kernel
theorem d_M_source_32 : decode b_M_source 32 = .ok (.iastore, 1) := by decide +kernel
theorem d_M_source_33 : decode b_M_source 33 = .ok (.aload_n 0, 1) := by decide +kernel
theorem d_M_source_34 : decode b_M_source 34 = .ok (.getfield 13, 3) := by decide +kernel
theorem d_M_source_37 : decode b_M_source 37 = .ok (.iconst 1, 1) := by decide +kernel
theorem d_M_source_38 : decode b_M_source 38 = .ok (.iload_n 2, 1) := by decide +kernel
theorem d_M_source_39 : decode b_M_source 39 = .ok (.iastore, 1) := by decide +kernel
theorem d_M_source_40 : decode b_M_source 40 = .ok (.aload_n 0, 1) := by decide +kernel
theorem d_M_source_41 : decode b_M_source 41 = .ok (.getfield 13, 3) := by decide +kernel
theorem d_M_source_44 : decode b_M_source 44 = .ok (.iconst 2, 1) := by decide +kernel
theorem d_M_source_45 : decode b_M_source 45 = .ok (.iload_n 3, 1) := by decide +kernel
theorem d_M_source_46 : decode b_M_source 46 = .ok (.iastore, 1) := by decide +kernel
theorem d_M_source_47 : decode b_M_source 47 = .ok (.aload_n 0, 1) := by decide +kernel
theorem d_M_source_48 : decode b_M_source 48 = .ok (.iconst 0, 1) := by decide +kernel
theorem d_M_source_49 : decode b_M_source 49 = .ok (.putfield 53, 3) := by decide +kernel
theorem d_M_source_52 : decode b_M_source 52 = .ok (.return_, 1) := by decide +kernel
theorem d_M_listener_0 : decode b_M_listener 0 = .ok (.aload_n 0, 1) := by decide +kernel
theorem d_M_listener_1 : decode b_M_listener 1 = .ok (.aload_n 0, 1) := by decide +kernel
theorem d_M_listener_2 : decode b_M_listener 2 = .ok (.iload_n 1, 1) := by decide +kernel
theorem d_M_listener_3 : decode b_M_listener 3 = .ok (.iload_n 2, 1) := by decide +kernel
theorem d_M_listener_4 : decode b_M_listener 4 = .ok (.iload_n 3, 1) := by decide +kernel
theorem d_M_listener_5 : decode b_M_listener 5 = .ok (.invokevirtual 49, 3) := by decide +kernel
theorem d_M_listener_8 : decode b_M_listener 8 = .ok (.ifCond .eq 7, 3) := by decide +kernel
theorem d_M_listener_11 : decode b_M_listener 11 = .ok (.iconst 0, 1) := by decide +kernel
theorem d_M_listener_12 : decode b_M_listener 12 = .ok (.goto 4, 3) := by decide +kernel
theorem d_M_listener_15 : decode b_M_listener 15 = .ok (.iconst 1, 1) := by decide +kernel
theorem d_M_listener_16 : decode b_M_listener 16 = .ok (.putfield 41, 3) := by decide +kernel
theorem d_M_listener_19 : decode b_M_listener 19 = .ok (.aload_n 0, 1) := by decide +kernel
theorem d_M_listener_20 : decode b_M_listener 20 = .ok (.getfield 41, 3) := by decide +kernel
theorem d_M_listener_23 : decode b_M_listener 23 = .ok (.ifCond .ne 29, 3) := by decide +kernel
theorem d_M_listener_26 : decode b_M_listener 26 = .ok (.aload_n 0, 1) := by decide +kernel
theorem d_M_listener_27 : decode b_M_listener 27 = .ok (.getfield 16, 3) := by decide +kernel
theorem d_M_listener_30 : decode b_M_listener 30 = .ok (.iconst 0, 1) := by decide +kernel
theorem d_M_listener_31 : decode b_M_listener 31 = .ok (.iload_n 1, 1) := by decide +kernel
theorem d_M_listener_32 : decode b_M_listener 32 = .ok (.iastore, 1) := by decide +kernel
theorem d_M_listener_33 : decode b_M_listener 33 = .ok (.aload_n 0, 1) := by decide +kernel
theorem d_M_listener_34 : decode b_M_listener 34 = .ok (.getfield 16, 3) := by decide +kernel
theorem d_M_listener_37 : decode b_M_listener 37 = .ok (.iconst 1, 1) := by decide +kernel
theorem d_M_listener_38 : decode b_M_listener 38 = .ok (.iload_n 2, 1) := by decide +kernel
theorem d_M_listener_39 : decode b_M_listener 39 = .ok (.iastore, 1) := by decide +kernel
theorem d_M_listener_40 : decode b_M_listener 40 = .ok (.aload_n 0, 1) := by decide +kernel
theorem d_M_listener_41 : decode b_M_listener 41 = .ok (.getfield 16, 3) := by decide +kernel
theorem d_M_listener_44 : decode b_M_listener 44 = .ok (.iconst 2, 1) := by decide +kernel
theorem d_M_listener_45 : decode b_M_listener 45 = .ok (.iload_n 3, 1) := by decide +kernel
theorem d_M_listener_46 : decode b_M_listener 46 = .ok (.iastore, 1) := by decide +kernel
theorem d_M_listener_47 : decode b_M_listener 47 = .ok (.aload_n 0, 1) := by decide +kernel
theorem d_M_listener_48 : decode b_M_listener 48 = .ok (.iconst 0, 1) := by decide +kernel
theorem d_M_listener_49 : decode b_M_listener 49 = .ok (.putfield 53, 3) := by decide +kernel
theorem d_M_listener_52 : decode b_M_listener 52 = .ok (.return_, 1) := by decide +kernel
theorem d_M_keeps_0 : decode b_M_keeps 0 = .ok (.aload_n 0, 1) := by decide +kernel
theorem d_M_keeps_1 : decode b_M_keeps 1 = .ok (.iload_n 1, 1) := by decide +kernel
theorem d_M_keeps_2 : decode b_M_keeps 2 = .ok (.i2l, 1) := by decide +kernel
theorem d_M_keeps_3 : decode b_M_keeps 3 = .ok (.lconst 0, 1) := by decide +kernel
theorem d_M_keeps_4 : decode b_M_keeps 4 = .ok (.ldc2_w 57, 3) := by decide +kernel
theorem d_M_keeps_7 : decode b_M_keeps 7 = .ok (.invokestatic 45, 3) := by decide +kernel
theorem d_M_keeps_10 : decode b_M_keeps 10 = .ok (.ifCond .eq 19, 3) := by decide +kernel
theorem d_M_keeps_13 : decode b_M_keeps 13 = .ok (.iload_n 2, 1) := by decide +kernel
theorem d_M_keeps_14 : decode b_M_keeps 14 = .ok (.i2l, 1) := by decide +kernel
theorem d_M_keeps_15 : decode b_M_keeps 15 = .ok (.lconst 0, 1) := by decide +kernel
theorem d_M_keeps_16 : decode b_M_keeps 16 = .ok (.ldc2_w 59, 3) := by decide +kernel
theorem d_M_keeps_19 : decode b_M_keeps 19 = .ok (.invokestatic 45, 3) := by decide +kernel
theorem d_M_keeps_22 : decode b_M_keeps 22 = .ok (.ifCond .eq 7, 3) := by decide +kernel
theorem d_M_keeps_25 : decode b_M_keeps 25 = .ok (.iconst 0, 1) := by decide +kernel
theorem d_M_keeps_26 : decode b_M_keeps 26 = .ok (.goto 4, 3) := by decide +kernel
theorem d_M_keeps_29 : decode b_M_keeps 29 = .ok (.iconst 1, 1) := by decide +kernel
theorem d_M_keeps_30 : decode b_M_keeps 30 = .ok (.putfield 41, 3) := by decide +kernel
theorem d_M_keeps_33 : decode b_M_keeps 33 = .ok (.aload_n 0, 1) := by decide +kernel
theorem d_M_keeps_34 : decode b_M_keeps 34 = .ok (.getfield 41, 3) := by decide +kernel
theorem d_M_keeps_37 : decode b_M_keeps 37 = .ok (.ifCond .le 5, 3) := by decide +kernel
theorem d_M_keeps_40 : decode b_M_keeps 40 = .ok (.iconst 0, 1) := by decide +kernel
theorem d_M_keeps_41 : decode b_M_keeps 41 = .ok (.ireturn, 1) := by decide +kernel
theorem d_M_keeps_42 : decode b_M_keeps 42 = .ok (.aload_n 0, 1) := by decide +kernel
theorem d_M_keeps_43 : decode b_M_keeps 43 = .ok (.getfield 19, 3) := by decide +kernel
theorem d_M_keeps_46 : decode b_M_keeps 46 = .ok (.iload_n 1, 1) := by decide +kernel
theorem d_M_keeps_47 : decode b_M_keeps 47 = .ok (.iaload, 1) := by decide +kernel
theorem d_M_keeps_48 : decode b_M_keeps 48 = .ok (.istore_n 3, 1) := by decide +kernel
theorem d_M_keeps_49 : decode b_M_keeps 49 = .ok (.aload_n 0, 1) := by decide +kernel
theorem d_M_keeps_50 : decode b_M_keeps 50 = .ok (.getfield 19, 3) := by decide +kernel
theorem d_M_keeps_53 : decode b_M_keeps 53 = .ok (.iload_n 1, 1) := by decide +kernel
theorem d_M_keeps_54 : decode b_M_keeps 54 = .ok (.iload_n 2, 1) := by decide +kernel
theorem d_M_keeps_55 : decode b_M_keeps 55 = .ok (.iastore, 1) := by decide +kernel
theorem d_M_keeps_56 : decode b_M_keeps 56 = .ok (.iload_n 3, 1) := by decide +kernel
theorem d_M_keeps_57 : decode b_M_keeps 57 = .ok (.ireturn, 1) := by decide +kernel
theorem d_M_square_0 : decode b_M_square 0 = .ok (.iload_n 2, 1) := by decide +kernel
theorem d_M_square_1 : decode b_M_square 1 = .ok (.i2l, 1) := by decide +kernel
theorem d_M_square_2 : decode b_M_square 2 = .ok (.aload_n 0, 1) := by decide +kernel
theorem d_M_square_3 : decode b_M_square 3 = .ok (.getfield 7, 3) := by decide +kernel
theorem d_M_square_6 : decode b_M_square 6 = .ok (.iload_n 1, 1) := by decide +kernel
theorem d_M_square_7 : decode b_M_square 7 = .ok (.iaload, 1) := by decide +kernel
theorem d_M_square_8 : decode b_M_square 8 = .ok (.i2l, 1) := by decide +kernel
theorem d_M_square_9 : decode b_M_square 9 = .ok (.lmul, 1) := by decide +kernel
theorem d_M_square_10 : decode b_M_square 10 = .ok (.iload_n 2, 1) := by decide +kernel
theorem d_M_square_11 : decode b_M_square 11 = .ok (.iconst 2, 1) := by decide +kernel
theorem d_M_square_12 : decode b_M_square 12 = .ok (.irem, 1) := by decide +kernel
theorem d_M_square_13 : decode b_M_square 13 = .ok (.ifCond .ne 12, 3) := by decide +kernel
theorem d_M_square_16 : decode b_M_square 16 = .ok (.aload_n 0, 1) := by decide +kernel
theorem d_M_square_17 : decode b_M_square 17 = .ok (.getfield 13, 3) := by decide +kernel
theorem d_M_square_20 : decode b_M_square 20 = .ok (.iload_n 1, 1) := by decide +kernel
theorem d_M_square_21 : decode b_M_square 21 = .ok (.iaload, 1) := by decide +kernel
theorem d_M_square_22 : decode b_M_square 22 = .ok (.goto 16, 3) := by decide +kernel
theorem d_M_square_25 : decode b_M_square 25 = .ok (.aload_n 0, 1) := by decide +kernel
theorem d_M_square_26 : decode b_M_square 26 = .ok (.getfield 7, 3) := by decide +kernel
theorem d_M_square_29 : decode b_M_square 29 = .ok (.iload_n 1, 1) := by decide +kernel
theorem d_M_square_30 : decode b_M_square 30 = .ok (.iaload, 1) := by decide +kernel
theorem d_M_square_31 : decode b_M_square 31 = .ok (.aload_n 0, 1) := by decide +kernel
theorem d_M_square_32 : decode b_M_square 32 = .ok (.getfield 13, 3) := by decide +kernel
theorem d_M_square_35 : decode b_M_square 35 = .ok (.iload_n 1, 1) := by decide +kernel
theorem d_M_square_36 : decode b_M_square 36 = .ok (.iaload, 1) := by decide +kernel
theorem d_M_square_37 : decode b_M_square 37 = .ok (.isub, 1) := by decide +kernel
theorem d_M_square_38 : decode b_M_square 38 = .ok (.i2l, 1) := by decide +kernel
theorem d_M_square_39 : decode b_M_square 39 = .ok (.ladd, 1) := by decide +kernel
theorem d_M_square_40 : decode b_M_square 40 = .ok (.lstore_n 3, 1) := by decide +kernel
theorem d_M_square_41 : decode b_M_square 41 = .ok (.lload_n 3, 1) := by decide +kernel
theorem d_M_square_42 : decode b_M_square 42 = .ok (.aload_n 0, 1) := by decide +kernel
theorem d_M_square_43 : decode b_M_square 43 = .ok (.getfield 16, 3) := by decide +kernel
theorem d_M_square_46 : decode b_M_square 46 = .ok (.iload_n 1, 1) := by decide +kernel
theorem d_M_square_47 : decode b_M_square 47 = .ok (.iaload, 1) := by decide +kernel
theorem d_M_square_48 : decode b_M_square 48 = .ok (.i2l, 1) := by decide +kernel
theorem d_M_square_49 : decode b_M_square 49 = .ok (.lsub, 1) := by decide +kernel
theorem d_M_square_50 : decode b_M_square 50 = .ok (.lstore 5, 2) := by decide +kernel
theorem d_M_square_52 : decode b_M_square 52 = .ok (.lload 5, 2) := by decide +kernel
theorem d_M_square_54 : decode b_M_square 54 = .ok (.lload 5, 2) := by decide +kernel
theorem d_M_square_56 : decode b_M_square 56 = .ok (.lmul, 1) := by decide +kernel
theorem d_M_square_57 : decode b_M_square 57 = .ok (.lreturn, 1) := by decide +kernel
theorem d_M_hitsHigh_0 : decode b_M_hitsHigh 0 = .ok (.iload_n 0, 1) := by decide +kernel
theorem d_M_hitsHigh_1 : decode b_M_hitsHigh 1 = .ok (.ifCond .lt 11, 3) := by decide +kernel
theorem d_M_hitsHigh_4 : decode b_M_hitsHigh 4 = .ok (.iload_n 0, 1) := by decide +kernel
theorem d_M_hitsHigh_5 : decode b_M_hitsHigh 5 = .ok (.iconst 1, 1) := by decide +kernel
theorem d_M_hitsHigh_6 : decode b_M_hitsHigh 6 = .ok (.iadd, 1) := by decide +kernel
theorem d_M_hitsHigh_7 : decode b_M_hitsHigh 7 = .ok (.iconst 2, 1) := by decide +kernel
theorem d_M_hitsHigh_8 : decode b_M_hitsHigh 8 = .ok (.idiv, 1) := by decide +kernel
theorem d_M_hitsHigh_9 : decode b_M_hitsHigh 9 = .ok (.goto 7, 3) := by decide +kernel
theorem d_M_hitsHigh_12 : decode b_M_hitsHigh 12 = .ok (.iload_n 0, 1) := by decide +kernel
theorem d_M_hitsHigh_13 : decode b_M_hitsHigh 13 = .ok (.ineg, 1) := by decide +kernel
theorem d_M_hitsHigh_14 : decode b_M_hitsHigh 14 = .ok (.iconst 2, 1) := by decide +kernel
theorem d_M_hitsHigh_15 : decode b_M_hitsHigh 15 = .ok (.idiv, 1) := by decide +kernel
theorem d_M_hitsHigh_16 : decode b_M_hitsHigh 16 = .ok (.ireturn, 1) := by decide +kernel
theorem d_M_hitsLow_0 : decode b_M_hitsLow 0 = .ok (.iload_n 0, 1) := by decide +kernel
theorem d_M_hitsLow_1 : decode b_M_hitsLow 1 = .ok (.ifCond .lt 9, 3) := by decide +kernel
theorem d_M_hitsLow_4 : decode b_M_hitsLow 4 = .ok (.iload_n 0, 1) := by decide +kernel
theorem d_M_hitsLow_5 : decode b_M_hitsLow 5 = .ok (.iconst 2, 1) := by decide +kernel
theorem d_M_hitsLow_6 : decode b_M_hitsLow 6 = .ok (.idiv, 1) := by decide +kernel
theorem d_M_hitsLow_7 : decode b_M_hitsLow 7 = .ok (.goto 8, 3) := by decide +kernel
theorem d_M_hitsLow_10 : decode b_M_hitsLow 10 = .ok (.iconst 1, 1) := by decide +kernel
theorem d_M_hitsLow_11 : decode b_M_hitsLow 11 = .ok (.iload_n 0, 1) := by decide +kernel
theorem d_M_hitsLow_12 : decode b_M_hitsLow 12 = .ok (.isub, 1) := by decide +kernel
theorem d_M_hitsLow_13 : decode b_M_hitsLow 13 = .ok (.iconst 2, 1) := by decide +kernel
theorem d_M_hitsLow_14 : decode b_M_hitsLow 14 = .ok (.idiv, 1) := by decide +kernel
theorem d_M_hitsLow_15 : decode b_M_hitsLow 15 = .ok (.ireturn, 1) := by decide +kernel
theorem d_M_distance_0 : decode b_M_distance 0 = .ok (.aload_n 0, 1) := by decide +kernel
theorem d_M_distance_1 : decode b_M_distance 1 = .ok (.iconst 0, 1) := by decide +kernel
theorem d_M_distance_2 : decode b_M_distance 2 = .ok (.iload_n 1, 1) := by decide +kernel
theorem d_M_distance_3 : decode b_M_distance 3 = .ok (.invokevirtual 61, 3) := by decide +kernel
theorem d_M_distance_6 : decode b_M_distance 6 = .ok (.aload_n 0, 1) := by decide +kernel
