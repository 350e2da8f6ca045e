theorem d_L_cell_0 : decode b_L_cell 0 = .ok (.iload_n 1, 1) := by decide +kernel
theorem d_L_cell_1 : decode b_L_cell 1 = .ok (.aload_n 0, 1) := by decide +kernel
theorem d_L_cell_2 : decode b_L_cell 2 = .ok (.arraylength, 1) := by decide +kernel
theorem d_L_cell_3 : decode b_L_cell 3 = .ok (.if_icmp .ge 9, 3) := by decide +kernel
theorem d_L_cell_6 : decode b_L_cell 6 = .ok (.aload_n 0, 1) := by decide +kernel
theorem d_L_cell_7 : decode b_L_cell 7 = .ok (.iload_n 1, 1) := by decide +kernel
theorem d_L_cell_8 : decode b_L_cell 8 = .ok (.iaload, 1) := by decide +kernel
theorem d_L_cell_9 : decode b_L_cell 9 = .ok (.goto 4, 3) := by decide +kernel
theorem d_L_cell_12 : decode b_L_cell 12 = .ok (.iconst 0, 1) := by decide +kernel
theorem d_L_cell_13 : decode b_L_cell 13 = .ok (.ireturn, 1) := by decide +kernel
theorem d_L_source_0 : decode b_L_source 0 = .ok (.aload_n 0, 1) := by decide +kernel
theorem d_L_source_1 : decode b_L_source 1 = .ok (.iload_n 1, 1) := by decide +kernel
theorem d_L_source_2 : decode b_L_source 2 = .ok (.iload_n 2, 1) := by decide +kernel
theorem d_L_source_3 : decode b_L_source 3 = .ok (.iload_n 3, 1) := by decide +kernel
theorem d_L_source_4 : decode b_L_source 4 = .ok (.invokevirtual 7, 3) := by decide +kernel
theorem d_L_source_7 : decode b_L_source 7 = .ok (.goto 7, 3) := by decide +kernel
theorem d_L_source_10 : decode b_L_source 10 = .ok (.astore 4, 2) := by decide +kernel
theorem d_L_source_12 : decode b_L_source 12 = .ok (.iconst 1, 1) := by decide +kernel
theorem d_L_source_13 : decode b_L_source 13 = .ok (.ireturn, 1) := by decide +kernel
theorem d_L_source_14 : decode b_L_source 14 = .ok (.iconst 0, 1) := by decide +kernel
theorem d_L_source_15 : decode b_L_source 15 = .ok (.ireturn, 1) := by decide +kernel
theorem d_L_listener_0 : decode b_L_listener 0 = .ok (.aload_n 0, 1) := by decide +kernel
theorem d_L_listener_1 : decode b_L_listener 1 = .ok (.iload_n 1, 1) := by decide +kernel
theorem d_L_listener_2 : decode b_L_listener 2 = .ok (.iload_n 2, 1) := by decide +kernel
theorem d_L_listener_3 : decode b_L_listener 3 = .ok (.iload_n 3, 1) := by decide +kernel
theorem d_L_listener_4 : decode b_L_listener 4 = .ok (.invokevirtual 15, 3) := by decide +kernel
theorem d_L_listener_7 : decode b_L_listener 7 = .ok (.goto 7, 3) := by decide +kernel
theorem d_L_listener_10 : decode b_L_listener 10 = .ok (.astore 4, 2) := by decide +kernel
theorem d_L_listener_12 : decode b_L_listener 12 = .ok (.iconst 1, 1) := by decide +kernel
theorem d_L_listener_13 : decode b_L_listener 13 = .ok (.ireturn, 1) := by decide +kernel
theorem d_L_listener_14 : decode b_L_listener 14 = .ok (.iconst 0, 1) := by decide +kernel
theorem d_L_listener_15 : decode b_L_listener 15 = .ok (.ireturn, 1) := by decide +kernel
theorem d_L_keeps_0 : decode b_L_keeps 0 = .ok (.aload_n 3, 1) := by decide +kernel
theorem d_L_keeps_1 : decode b_L_keeps 1 = .ok (.iconst 0, 1) := by decide +kernel
theorem d_L_keeps_2 : decode b_L_keeps 2 = .ok (.aload_n 0, 1) := by decide +kernel
theorem d_L_keeps_3 : decode b_L_keeps 3 = .ok (.iload_n 1, 1) := by decide +kernel
theorem d_L_keeps_4 : decode b_L_keeps 4 = .ok (.iload_n 2, 1) := by decide +kernel
theorem d_L_keeps_5 : decode b_L_keeps 5 = .ok (.invokevirtual 18, 3) := by decide +kernel
theorem d_L_keeps_8 : decode b_L_keeps 8 = .ok (.i2l, 1) := by decide +kernel
theorem d_L_keeps_9 : decode b_L_keeps 9 = .ok (.lastore, 1) := by decide +kernel
theorem d_L_keeps_10 : decode b_L_keeps 10 = .ok (.goto 7, 3) := by decide +kernel
theorem d_L_keeps_13 : decode b_L_keeps 13 = .ok (.astore 4, 2) := by decide +kernel
theorem d_L_keeps_15 : decode b_L_keeps 15 = .ok (.iconst 1, 1) := by decide +kernel
theorem d_L_keeps_16 : decode b_L_keeps 16 = .ok (.ireturn, 1) := by decide +kernel
theorem d_L_keeps_17 : decode b_L_keeps 17 = .ok (.iconst 0, 1) := by decide +kernel
theorem d_L_keeps_18 : decode b_L_keeps 18 = .ok (.ireturn, 1) := by decide +kernel
theorem d_L_image_0 : decode b_L_image 0 = .ok (.aload 5, 2) := by decide +kernel
theorem d_L_image_2 : decode b_L_image 2 = .ok (.iconst 0, 1) := by decide +kernel
theorem d_L_image_3 : decode b_L_image 3 = .ok (.aload_n 0, 1) := by decide +kernel
theorem d_L_image_4 : decode b_L_image 4 = .ok (.iload_n 1, 1) := by decide +kernel
theorem d_L_image_5 : decode b_L_image 5 = .ok (.iload_n 2, 1) := by decide +kernel
theorem d_L_image_6 : decode b_L_image 6 = .ok (.iload_n 3, 1) := by decide +kernel
theorem d_L_image_7 : decode b_L_image 7 = .ok (.iload 4, 2) := by decide +kernel
theorem d_L_image_9 : decode b_L_image 9 = .ok (.invokevirtual 22, 3) := by decide +kernel
theorem d_L_image_12 : decode b_L_image 12 = .ok (.lastore, 1) := by decide +kernel
theorem d_L_image_13 : decode b_L_image 13 = .ok (.goto 7, 3) := by decide +kernel
theorem d_L_image_16 : decode b_L_image 16 = .ok (.astore 6, 2) := by decide +kernel
theorem d_L_image_18 : decode b_L_image 18 = .ok (.iconst 1, 1) := by decide +kernel
theorem d_L_image_19 : decode b_L_image 19 = .ok (.ireturn, 1) := by decide +kernel
theorem d_L_image_20 : decode b_L_image 20 = .ok (.iconst 0, 1) := by decide +kernel
theorem d_L_image_21 : decode b_L_image 21 = .ok (.ireturn, 1) := by decide +kernel
theorem d_L_echo_0 : decode b_L_echo 0 = .ok (.aload_n 3, 1) := by decide +kernel
theorem d_L_echo_1 : decode b_L_echo 1 = .ok (.iconst 0, 1) := by decide +kernel
theorem d_L_echo_2 : decode b_L_echo 2 = .ok (.aload_n 0, 1) := by decide +kernel
theorem d_L_echo_3 : decode b_L_echo 3 = .ok (.iload_n 1, 1) := by decide +kernel
theorem d_L_echo_4 : decode b_L_echo 4 = .ok (.iload_n 2, 1) := by decide +kernel
theorem d_L_echo_5 : decode b_L_echo 5 = .ok (.invokevirtual 26, 3) := by decide +kernel
theorem d_L_echo_8 : decode b_L_echo 8 = .ok (.lastore, 1) := by decide +kernel
theorem d_L_echo_9 : decode b_L_echo 9 = .ok (.goto 7, 3) := by decide +kernel
theorem d_L_echo_12 : decode b_L_echo 12 = .ok (.astore 4, 2) := by decide +kernel
theorem d_L_echo_14 : decode b_L_echo 14 = .ok (.iconst 1, 1) := by decide +kernel
theorem d_L_echo_15 : decode b_L_echo 15 = .ok (.ireturn, 1) := by decide +kernel
theorem d_L_echo_16 : decode b_L_echo 16 = .ok (.iconst 0, 1) := by decide +kernel
theorem d_L_echo_17 : decode b_L_echo 17 = .ok (.ireturn, 1) := by decide +kernel
theorem d_L_place_0 : decode b_L_place 0 = .ok (.aload 4, 2) := by decide +kernel
theorem d_L_place_2 : decode b_L_place 2 = .ok (.iconst 0, 1) := by decide +kernel
theorem d_L_place_3 : decode b_L_place 3 = .ok (.aload_n 0, 1) := by decide +kernel
theorem d_L_place_4 : decode b_L_place 4 = .ok (.iload_n 1, 1) := by decide +kernel
theorem d_L_place_5 : decode b_L_place 5 = .ok (.iload_n 2, 1) := by decide +kernel
theorem d_L_place_6 : decode b_L_place 6 = .ok (.iload_n 3, 1) := by decide +kernel
theorem d_L_place_7 : decode b_L_place 7 = .ok (.invokevirtual 30, 3) := by decide +kernel
theorem d_L_place_10 : decode b_L_place 10 = .ok (.i2l, 1) := by decide +kernel
theorem d_L_place_11 : decode b_L_place 11 = .ok (.lastore, 1) := by decide +kernel
theorem d_L_place_12 : decode b_L_place 12 = .ok (.goto 7, 3) := by decide +kernel
theorem d_L_place_15 : decode b_L_place 15 = .ok (.astore 5, 2) := by decide +kernel
theorem d_L_place_17 : decode b_L_place 17 = .ok (.iconst 1, 1) := by decide +kernel
theorem d_L_place_18 : decode b_L_place 18 = .ok (.ireturn, 1) := by decide +kernel
theorem d_L_place_19 : decode b_L_place 19 = .ok (.iconst 0, 1) := by decide +kernel
theorem d_L_place_20 : decode b_L_place 20 = .ok (.ireturn, 1) := by decide +kernel
theorem d_L_until_0 : decode b_L_until 0 = .ok (.aload_n 3, 1) := by decide +kernel
theorem d_L_until_1 : decode b_L_until 1 = .ok (.iconst 0, 1) := by decide +kernel
theorem d_L_until_2 : decode b_L_until 2 = .ok (.aload_n 0, 1) := by decide +kernel
theorem d_L_until_3 : decode b_L_until 3 = .ok (.lload_n 1, 1) := by decide +kernel
theorem d_L_until_4 : decode b_L_until 4 = .ok (.invokevirtual 34, 3) := by decide +kernel
theorem d_L_until_7 : decode b_L_until 7 = .ok (.i2l, 1) := by decide +kernel
theorem d_L_until_8 : decode b_L_until 8 = .ok (.lastore, 1) := by decide +kernel
theorem d_L_until_9 : decode b_L_until 9 = .ok (.goto 7, 3) := by decide +kernel
theorem d_L_until_12 : decode b_L_until 12 = .ok (.astore 4, 2) := by decide +kernel
theorem d_L_until_14 : decode b_L_until 14 = .ok (.iconst 1, 1) := by decide +kernel
theorem d_L_until_15 : decode b_L_until 15 = .ok (.ireturn, 1) := by decide +kernel
theorem d_L_until_16 : decode b_L_until 16 = .ok (.iconst 0, 1) := by decide +kernel
theorem d_L_until_17 : decode b_L_until 17 = .ok (.ireturn, 1) := by decide +kernel
theorem d_L_loud_0 : decode b_L_loud 0 = .ok (.aload_n 3, 1) := by decide +kernel
theorem d_L_loud_1 : decode b_L_loud 1 = .ok (.iconst 0, 1) := by decide +kernel
theorem d_L_loud_2 : decode b_L_loud 2 = .ok (.aload_n 0, 1) := by decide +kernel
theorem d_L_loud_3 : decode b_L_loud 3 = .ok (.iload_n 1, 1) := by decide +kernel
theorem d_L_loud_4 : decode b_L_loud 4 = .ok (.iload_n 2, 1) := by decide +kernel
theorem d_L_loud_5 : decode b_L_loud 5 = .ok (.invokevirtual 38, 3) := by decide +kernel
theorem d_L_loud_8 : decode b_L_loud 8 = .ok (.lastore, 1) := by decide +kernel
theorem d_L_loud_9 : decode b_L_loud 9 = .ok (.goto 7, 3) := by decide +kernel
theorem d_L_loud_12 : decode b_L_loud 12 = .ok (.astore 4, 2) := by decide +kernel
theorem d_L_loud_14 : decode b_L_loud 14 = .ok (.iconst 1, 1) := by decide +kernel
theorem d_L_loud_15 : decode b_L_loud 15 = .ok (.ireturn, 1) := by decide +kernel
theorem d_L_loud_16 : decode b_L_loud 16 = .ok (.iconst 0, 1) := by decide +kernel
theorem d_L_loud_17 : decode b_L_loud 17 = .ok (.ireturn, 1) := by decide +kernel
theorem d_L_early_0 : decode b_L_early 0 = .ok (.aload 4, 2) := by decide +kernel
theorem d_L_early_2 : decode b_L_early 2 = .ok (.iconst 0, 1) := by decide +kernel
theorem d_L_early_3 : decode b_L_early 3 = .ok (.aload_n 0, 1) := by decide +kernel
theorem d_L_early_4 : decode b_L_early 4 = .ok (.lload_n 1, 1) := by decide +kernel
theorem d_L_early_5 : decode b_L_early 5 = .ok (.iload_n 3, 1) := by decide +kernel
theorem d_L_early_6 : decode b_L_early 6 = .ok (.invokevirtual 41, 3) := by decide +kernel
theorem d_L_early_9 : decode b_L_early 9 = .ok (.lastore, 1) := by decide +kernel
theorem d_L_early_10 : decode b_L_early 10 = .ok (.goto 7, 3) := by decide +kernel
theorem d_L_early_13 : decode b_L_early 13 = .ok (.astore 5, 2) := by decide +kernel
theorem d_L_early_15 : decode b_L_early 15 = .ok (.iconst 1, 1) := by decide +kernel
theorem d_L_early_16 : decode b_L_early 16 = .ok (.ireturn, 1) := by decide +kernel
theorem d_L_early_17 : decode b_L_early 17 = .ok (.iconst 0, 1) := by decide +kernel
theorem d_L_early_18 : decode b_L_early 18 = .ok (.ireturn, 1) := by decide +kernel
theorem d_L_enough_0 : decode b_L_enough 0 = .ok (.aload_n 2, 1) := by decide +kernel
theorem d_L_enough_1 : decode b_L_enough 1 = .ok (.iconst 0, 1) := by decide +kernel
theorem d_L_enough_2 : decode b_L_enough 2 = .ok (.aload_n 0, 1) := by decide +kernel
theorem d_L_enough_3 : decode b_L_enough 3 = .ok (.iload_n 1, 1) := by decide +kernel
theorem d_L_enough_4 : decode b_L_enough 4 = .ok (.invokevirtual 45, 3) := by decide +kernel
theorem d_L_enough_7 : decode b_L_enough 7 = .ok (.i2l, 1) := by decide +kernel
theorem d_L_enough_8 : decode b_L_enough 8 = .ok (.lastore, 1) := by decide +kernel
theorem d_L_enough_9 : decode b_L_enough 9 = .ok (.goto 6, 3) := by decide +kernel
theorem d_L_enough_12 : decode b_L_enough 12 = .ok (.astore_n 3, 1) := by decide +kernel
theorem d_L_enough_13 : decode b_L_enough 13 = .ok (.iconst 1, 1) := by decide +kernel
theorem d_L_enough_14 : decode b_L_enough 14 = .ok (.ireturn, 1) := by decide +kernel
theorem d_L_enough_15 : decode b_L_enough 15 = .ok (.iconst 0, 1) := by decide +kernel
theorem d_L_enough_16 : decode b_L_enough 16 = .ok (.ireturn, 1) := by decide +kernel
theorem d_L_loudest_0 : decode b_L_loudest 0 = .ok (.aload_n 2, 1) := by decide +kernel
theorem d_L_loudest_1 : decode b_L_loudest 1 = .ok (.iconst 0, 1) := by decide +kernel
theorem d_L_loudest_2 : decode b_L_loudest 2 = .ok (.aload_n 0, 1) := by decide +kernel
theorem d_L_loudest_3 : decode b_L_loudest 3 = .ok (.iload_n 1, 1) := by decide +kernel
theorem d_L_loudest_4 : decode b_L_loudest 4 = .ok (.invokevirtual 49, 3) := by decide +kernel
theorem d_L_loudest_7 : decode b_L_loudest 7 = .ok (.i2l, 1) := by decide +kernel
theorem d_L_loudest_8 : decode b_L_loudest 8 = .ok (.lastore, 1) := by decide +kernel
theorem d_L_loudest_9 : decode b_L_loudest 9 = .ok (.goto 6, 3) := by decide +kernel
theorem d_L_loudest_12 : decode b_L_loudest 12 = .ok (.astore_n 3, 1) := by decide +kernel
theorem d_L_loudest_13 : decode b_L_loudest 13 = .ok (.iconst 1, 1) := by decide +kernel
theorem d_L_loudest_14 : decode b_L_loudest 14 = .ok (.ireturn, 1) := by decide +kernel
theorem d_L_loudest_15 : decode b_L_loudest 15 = .ok (.iconst 0, 1) := by decide +kernel
theorem d_L_loudest_16 : decode b_L_loudest 16 = .ok (.ireturn, 1) := by decide +kernel
theorem d_L_law_0 : decode code 0 = .ok (.new 8, 3) := by decide +kernel
theorem d_L_law_3 : decode code 3 = .ok (.dup, 1) := by decide +kernel
theorem d_L_law_4 : decode code 4 = .ok (.aload_n 0, 1) := by decide +kernel
theorem d_L_law_5 : decode code 5 = .ok (.iconst 0, 1) := by decide +kernel
theorem d_L_law_6 : decode code 6 = .ok (.invokestatic 52, 3) := by decide +kernel
theorem d_L_law_9 : decode code 9 = .ok (.aload_n 0, 1) := by decide +kernel
theorem d_L_law_10 : decode code 10 = .ok (.iconst 1, 1) := by decide +kernel
theorem d_L_law_11 : decode code 11 = .ok (.invokestatic 52, 3) := by decide +kernel
theorem d_L_law_14 : decode code 14 = .ok (.aload_n 0, 1) := by decide +kernel
theorem d_L_law_15 : decode code 15 = .ok (.iconst 2, 1) := by decide +kernel
theorem d_L_law_16 : decode code 16 = .ok (.invokestatic 52, 3) := by decide +kernel
theorem d_L_law_19 : decode code 19 = .ok (.invokespecial 58, 3) := by decide +kernel
theorem d_L_law_22 : decode code 22 = .ok (.astore_n 1, 1) := by decide +kernel
theorem d_L_law_23 : decode code 23 = .ok (.new 60, 3) := by decide +kernel
theorem d_L_law_26 : decode code 26 = .ok (.dup, 1) := by decide +kernel
theorem d_L_law_27 : decode code 27 = .ok (.aload_n 0, 1) := by decide +kernel
theorem d_L_law_28 : decode code 28 = .ok (.iconst 0, 1) := by decide +kernel
theorem d_L_law_29 : decode code 29 = .ok (.invokestatic 52, 3) := by decide +kernel
theorem d_L_law_32 : decode code 32 = .ok (.aload_n 0, 1) := by decide +kernel
theorem d_L_law_33 : decode code 33 = .ok (.iconst 1, 1) := by decide +kernel
theorem d_L_law_34 : decode code 34 = .ok (.invokestatic 52, 3) := by decide +kernel
theorem d_L_law_37 : decode code 37 = .ok (.aload_n 0, 1) := by decide +kernel
theorem d_L_law_38 : decode code 38 = .ok (.iconst 2, 1) := by decide +kernel
theorem d_L_law_39 : decode code 39 = .ok (.invokestatic 52, 3) := by decide +kernel
theorem d_L_law_42 : decode code 42 = .ok (.invokespecial 62, 3) := by decide +kernel
theorem d_L_law_45 : decode code 45 = .ok (.astore_n 2, 1) := by decide +kernel
theorem d_L_law_46 : decode code 46 = .ok (.iconst 1, 1) := by decide +kernel
theorem d_L_law_47 : decode code 47 = .ok (.newarray .long, 2) := by decide +kernel
theorem d_L_law_49 : decode code 49 = .ok (.astore_n 3, 1) := by decide +kernel
theorem d_L_law_50 : decode code 50 = .ok (.iconst 3, 1) := by decide +kernel
theorem d_L_law_51 : decode code 51 = .ok (.istore 4, 2) := by decide +kernel
theorem d_L_law_53 : decode code 53 = .ok (.iload 4, 2) := by decide +kernel
theorem d_L_law_55 : decode code 55 = .ok (.aload_n 0, 1) := by decide +kernel
theorem d_L_law_56 : decode code 56 = .ok (.arraylength, 1) := by decide +kernel
theorem d_L_law_57 : decode code 57 = .ok (.iconst 5, 1) := by decide +kernel
theorem d_L_law_58 : decode code 58 = .ok (.isub, 1) := by decide +kernel
theorem d_L_law_59 : decode code 59 = .ok (.if_icmp .gt 867, 3) := by decide +kernel
theorem d_L_law_62 : decode code 62 = .ok (.aload_n 0, 1) := by decide +kernel
theorem d_L_law_63 : decode code 63 = .ok (.iload 4, 2) := by decide +kernel
theorem d_L_law_65 : decode code 65 = .ok (.iaload, 1) := by decide +kernel
theorem d_L_law_66 : decode code 66 = .ok (.bipush 15, 2) := by decide +kernel
theorem d_L_law_68 : decode code 68 = .ok (.iand, 1) := by decide +kernel
theorem d_L_law_69 : decode code 69 = .ok (.tableswitch 851 0 10 #[59, 119, 179, 247, 338, 405, 485, 573, 640, 739, 795], 59) := by decide +kernel
theorem d_L_law_128 : decode code 128 = .ok (.aload_n 1, 1) := by decide +kernel
theorem d_L_law_129 : decode code 129 = .ok (.aload_n 0, 1) := by decide +kernel
theorem d_L_law_130 : decode code 130 = .ok (.iload 4, 2) := by decide +kernel
theorem d_L_law_132 : decode code 132 = .ok (.iconst 1, 1) := by decide +kernel
theorem d_L_law_133 : decode code 133 = .ok (.iadd, 1) := by decide +kernel
theorem d_L_law_134 : decode code 134 = .ok (.iaload, 1) := by decide +kernel
theorem d_L_law_135 : decode code 135 = .ok (.aload_n 0, 1) := by decide +kernel
theorem d_L_law_136 : decode code 136 = .ok (.iload 4, 2) := by decide +kernel
theorem d_L_law_138 : decode code 138 = .ok (.iconst 2, 1) := by decide +kernel
theorem d_L_law_139 : decode code 139 = .ok (.iadd, 1) := by decide +kernel
theorem d_L_law_140 : decode code 140 = .ok (.iaload, 1) := by decide +kernel
theorem d_L_law_141 : decode code 141 = .ok (.aload_n 0, 1) := by decide +kernel
theorem d_L_law_142 : decode code 142 = .ok (.iload 4, 2) := by decide +kernel
theorem d_L_law_144 : decode code 144 = .ok (.iconst 3, 1) := by decide +kernel
theorem d_L_law_145 : decode code 145 = .ok (.iadd, 1) := by decide +kernel
theorem d_L_law_146 : decode code 146 = .ok (.iaload, 1) := by decide +kernel
theorem d_L_law_147 : decode code 147 = .ok (.invokestatic 63, 3) := by decide +kernel
theorem d_L_law_150 : decode code 150 = .ok (.istore 5, 2) := by decide +kernel
theorem d_L_law_152 : decode code 152 = .ok (.aload_n 2, 1) := by decide +kernel
theorem d_L_law_153 : decode code 153 = .ok (.aload_n 0, 1) := by decide +kernel
theorem d_L_law_154 : decode code 154 = .ok (.iload 4, 2) := by decide +kernel
theorem d_L_law_156 : decode code 156 = .ok (.iconst 1, 1) := by decide +kernel
theorem d_L_law_157 : decode code 157 = .ok (.iadd, 1) := by decide +kernel
theorem d_L_law_158 : decode code 158 = .ok (.iaload, 1) := by decide +kernel
theorem d_L_law_159 : decode code 159 = .ok (.aload_n 0, 1) := by decide +kernel
theorem d_L_law_160 : decode code 160 = .ok (.iload 4, 2) := by decide +kernel
theorem d_L_law_162 : decode code 162 = .ok (.iconst 2, 1) := by decide +kernel
theorem d_L_law_163 : decode code 163 = .ok (.iadd, 1) := by decide +kernel
theorem d_L_law_164 : decode code 164 = .ok (.iaload, 1) := by decide +kernel
theorem d_L_law_165 : decode code 165 = .ok (.aload_n 0, 1) := by decide +kernel
theorem d_L_law_166 : decode code 166 = .ok (.iload 4, 2) := by decide +kernel
theorem d_L_law_168 : decode code 168 = .ok (.iconst 3, 1) := by decide +kernel
theorem d_L_law_169 : decode code 169 = .ok (.iadd, 1) := by decide +kernel
theorem d_L_law_170 : decode code 170 = .ok (.iaload, 1) := by decide +kernel
theorem d_L_law_171 : decode code 171 = .ok (.invokevirtual 66, 3) := by decide +kernel
theorem d_L_law_174 : decode code 174 = .ok (.aload_n 2, 1) := by decide +kernel
theorem d_L_law_175 : decode code 175 = .ok (.invokevirtual 67, 3) := by decide +kernel
theorem d_L_law_178 : decode code 178 = .ok (.iload 5, 2) := by decide +kernel
theorem d_L_law_180 : decode code 180 = .ok (.if_icmp .eq 5, 3) := by decide +kernel
theorem d_L_law_183 : decode code 183 = .ok (.iconst 0, 1) := by decide +kernel
theorem d_L_law_184 : decode code 184 = .ok (.ireturn, 1) := by decide +kernel
theorem d_L_law_185 : decode code 185 = .ok (.goto 735, 3) := by decide +kernel
theorem d_L_law_188 : decode code 188 = .ok (.aload_n 1, 1) := by decide +kernel
theorem d_L_law_189 : decode code 189 = .ok (.aload_n 0, 1) := by decide +kernel
theorem d_L_law_190 : decode code 190 = .ok (.iload 4, 2) := by decide +kernel
theorem d_L_law_192 : decode code 192 = .ok (.iconst 1, 1) := by decide +kernel
theorem d_L_law_193 : decode code 193 = .ok (.iadd, 1) := by decide +kernel
theorem d_L_law_194 : decode code 194 = .ok (.iaload, 1) := by decide +kernel
theorem d_L_law_195 : decode code 195 = .ok (.aload_n 0, 1) := by decide +kernel
theorem d_L_law_196 : decode code 196 = .ok (.iload 4, 2) := by decide +kernel
theorem d_L_law_198 : decode code 198 = .ok (.iconst 2, 1) := by decide +kernel
theorem d_L_law_199 : decode code 199 = .ok (.iadd, 1) := by decide +kernel
theorem d_L_law_200 : decode code 200 = .ok (.iaload, 1) := by decide +kernel
theorem d_L_law_201 : decode code 201 = .ok (.aload_n 0, 1) := by decide +kernel
theorem d_L_law_202 : decode code 202 = .ok (.iload 4, 2) := by decide +kernel
theorem d_L_law_204 : decode code 204 = .ok (.iconst 3, 1) := by decide +kernel
theorem d_L_law_205 : decode code 205 = .ok (.iadd, 1) := by decide +kernel
theorem d_L_law_206 : decode code 206 = .ok (.iaload, 1) := by decide +kernel
theorem d_L_law_207 : decode code 207 = .ok (.invokestatic 71, 3) := by decide +kernel
theorem d_L_law_210 : decode code 210 = .ok (.istore 5, 2) := by decide +kernel
theorem d_L_law_212 : decode code 212 = .ok (.aload_n 2, 1) := by decide +kernel
theorem d_L_law_213 : decode code 213 = .ok (.aload_n 0, 1) := by decide +kernel
theorem d_L_law_214 : decode code 214 = .ok (.iload 4, 2) := by decide +kernel
theorem d_L_law_216 : decode code 216 = .ok (.iconst 1, 1) := by decide +kernel
theorem d_L_law_217 : decode code 217 = .ok (.iadd, 1) := by decide +kernel
theorem d_L_law_218 : decode code 218 = .ok (.iaload, 1) := by decide +kernel
theorem d_L_law_219 : decode code 219 = .ok (.aload_n 0, 1) := by decide +kernel
theorem d_L_law_220 : decode code 220 = .ok (.iload 4, 2) := by decide +kernel
theorem d_L_law_222 : decode code 222 = .ok (.iconst 2, 1) := by decide +kernel
theorem d_L_law_223 : decode code 223 = .ok (.iadd, 1) := by decide +kernel
theorem d_L_law_224 : decode code 224 = .ok (.iaload, 1) := by decide +kernel
theorem d_L_law_225 : decode code 225 = .ok (.aload_n 0, 1) := by decide +kernel
theorem d_L_law_226 : decode code 226 = .ok (.iload 4, 2) := by decide +kernel
theorem d_L_law_228 : decode code 228 = .ok (.iconst 3, 1) := by decide +kernel
theorem d_L_law_229 : decode code 229 = .ok (.iadd, 1) := by decide +kernel
theorem d_L_law_230 : decode code 230 = .ok (.iaload, 1) := by decide +kernel
theorem d_L_law_231 : decode code 231 = .ok (.invokevirtual 73, 3) := by decide +kernel
theorem d_L_law_234 : decode code 234 = .ok (.aload_n 2, 1) := by decide +kernel
theorem d_L_law_235 : decode code 235 = .ok (.invokevirtual 67, 3) := by decide +kernel
theorem d_L_law_238 : decode code 238 = .ok (.iload 5, 2) := by decide +kernel
theorem d_L_law_240 : decode code 240 = .ok (.if_icmp .eq 5, 3) := by decide +kernel
theorem d_L_law_243 : decode code 243 = .ok (.iconst 0, 1) := by decide +kernel
theorem d_L_law_244 : decode code 244 = .ok (.ireturn, 1) := by decide +kernel
theorem d_L_law_245 : decode code 245 = .ok (.goto 675, 3) := by decide +kernel
theorem d_L_law_248 : decode code 248 = .ok (.aload_n 1, 1) := by decide +kernel
theorem d_L_law_249 : decode code 249 = .ok (.aload_n 0, 1) := by decide +kernel
theorem d_L_law_250 : decode code 250 = .ok (.iload 4, 2) := by decide +kernel
theorem d_L_law_252 : decode code 252 = .ok (.iconst 1, 1) := by decide +kernel
theorem d_L_law_253 : decode code 253 = .ok (.iadd, 1) := by decide +kernel
theorem d_L_law_254 : decode code 254 = .ok (.iaload, 1) := by decide +kernel
theorem d_L_law_255 : decode code 255 = .ok (.aload_n 0, 1) := by decide +kernel
theorem d_L_law_256 : decode code 256 = .ok (.iload 4, 2) := by decide +kernel
theorem d_L_law_258 : decode code 258 = .ok (.iconst 2, 1) := by decide +kernel
theorem d_L_law_259 : decode code 259 = .ok (.iadd, 1) := by decide +kernel
theorem d_L_law_260 : decode code 260 = .ok (.iaload, 1) := by decide +kernel
theorem d_L_law_261 : decode code 261 = .ok (.aload_n 3, 1) := by decide +kernel
theorem d_L_law_262 : decode code 262 = .ok (.invokestatic 74, 3) := by decide +kernel
theorem d_L_law_265 : decode code 265 = .ok (.istore 5, 2) := by decide +kernel
theorem d_L_law_267 : decode code 267 = .ok (.aload_n 2, 1) := by decide +kernel
theorem d_L_law_268 : decode code 268 = .ok (.aload_n 0, 1) := by decide +kernel
theorem d_L_law_269 : decode code 269 = .ok (.iload 4, 2) := by decide +kernel
theorem d_L_law_271 : decode code 271 = .ok (.iconst 1, 1) := by decide +kernel
theorem d_L_law_272 : decode code 272 = .ok (.iadd, 1) := by decide +kernel
theorem d_L_law_273 : decode code 273 = .ok (.iaload, 1) := by decide +kernel
theorem d_L_law_274 : decode code 274 = .ok (.aload_n 0, 1) := by decide +kernel
theorem d_L_law_275 : decode code 275 = .ok (.iload 4, 2) := by decide +kernel
theorem d_L_law_277 : decode code 277 = .ok (.iconst 2, 1) := by decide +kernel
theorem d_L_law_278 : decode code 278 = .ok (.iadd, 1) := by decide +kernel
theorem d_L_law_279 : decode code 279 = .ok (.iaload, 1) := by decide +kernel
theorem d_L_law_280 : decode code 280 = .ok (.invokevirtual 77, 3) := by decide +kernel
theorem d_L_law_283 : decode code 283 = .ok (.istore 6, 2) := by decide +kernel
theorem d_L_law_285 : decode code 285 = .ok (.aload_n 2, 1) := by decide +kernel
theorem d_L_law_286 : decode code 286 = .ok (.invokevirtual 67, 3) := by decide +kernel
theorem d_L_law_289 : decode code 289 = .ok (.iload 5, 2) := by decide +kernel
theorem d_L_law_291 : decode code 291 = .ok (.if_icmp .eq 5, 3) := by decide +kernel
theorem d_L_law_294 : decode code 294 = .ok (.iconst 0, 1) := by decide +kernel
theorem d_L_law_295 : decode code 295 = .ok (.ireturn, 1) := by decide +kernel
theorem d_L_law_296 : decode code 296 = .ok (.iload 5, 2) := by decide +kernel
theorem d_L_law_298 : decode code 298 = .ok (.ifCond .ne 15, 3) := by decide +kernel
theorem d_L_law_301 : decode code 301 = .ok (.aload_n 3, 1) := by decide +kernel
theorem d_L_law_302 : decode code 302 = .ok (.iconst 0, 1) := by decide +kernel
theorem d_L_law_303 : decode code 303 = .ok (.laload, 1) := by decide +kernel
theorem d_L_law_304 : decode code 304 = .ok (.iload 6, 2) := by decide +kernel
