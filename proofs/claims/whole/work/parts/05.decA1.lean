theorem d_A_init_0 : decode b_A_init 0 = .ok (.aload_n 0, 1) := by decide +kernel
theorem d_A_init_1 : decode b_A_init 1 = .ok (.invokespecial 3, 3) := by decide +kernel
theorem d_A_init_4 : decode b_A_init 4 = .ok (.aload_n 0, 1) := by decide +kernel
theorem d_A_init_5 : decode b_A_init 5 = .ok (.bipush 81, 2) := by decide +kernel
theorem d_A_init_7 : decode b_A_init 7 = .ok (.newarray .long, 2) := by decide +kernel
theorem d_A_init_9 : decode b_A_init 9 = .ok (.putfield 9, 3) := by decide +kernel
theorem d_A_init_12 : decode b_A_init 12 = .ok (.aload_n 0, 1) := by decide +kernel
theorem d_A_init_13 : decode b_A_init 13 = .ok (.bipush 81, 2) := by decide +kernel
theorem d_A_init_15 : decode b_A_init 15 = .ok (.newarray .int, 2) := by decide +kernel
theorem d_A_init_17 : decode b_A_init 17 = .ok (.putfield 15, 3) := by decide +kernel
theorem d_A_init_20 : decode b_A_init 20 = .ok (.aload_n 0, 1) := by decide +kernel
theorem d_A_init_21 : decode b_A_init 21 = .ok (.iload_n 1, 1) := by decide +kernel
theorem d_A_init_22 : decode b_A_init 22 = .ok (.putfield 19, 3) := by decide +kernel
theorem d_A_init_25 : decode b_A_init 25 = .ok (.return_, 1) := by decide +kernel
theorem d_A_squareTo_0 : decode b_A_squareTo 0 = .ok (.aload_n 0, 1) := by decide +kernel
theorem d_A_squareTo_1 : decode b_A_squareTo 1 = .ok (.iload_n 1, 1) := by decide +kernel
theorem d_A_squareTo_2 : decode b_A_squareTo 2 = .ok (.invokevirtual 23, 3) := by decide +kernel
theorem d_A_squareTo_5 : decode b_A_squareTo 5 = .ok (.aload_n 0, 1) := by decide +kernel
theorem d_A_squareTo_6 : decode b_A_squareTo 6 = .ok (.getfield 27, 3) := by decide +kernel
theorem d_A_squareTo_9 : decode b_A_squareTo 9 = .ok (.isub, 1) := by decide +kernel
theorem d_A_squareTo_10 : decode b_A_squareTo 10 = .ok (.i2l, 1) := by decide +kernel
theorem d_A_squareTo_11 : decode b_A_squareTo 11 = .ok (.lstore_n 2, 1) := by decide +kernel
theorem d_A_squareTo_12 : decode b_A_squareTo 12 = .ok (.lload_n 2, 1) := by decide +kernel
theorem d_A_squareTo_13 : decode b_A_squareTo 13 = .ok (.lload_n 2, 1) := by decide +kernel
theorem d_A_squareTo_14 : decode b_A_squareTo 14 = .ok (.lmul, 1) := by decide +kernel
theorem d_A_squareTo_15 : decode b_A_squareTo 15 = .ok (.lreturn, 1) := by decide +kernel
theorem d_A_imageAt_0 : decode b_A_imageAt 0 = .ok (.iload_n 1, 1) := by decide +kernel
theorem d_A_imageAt_1 : decode b_A_imageAt 1 = .ok (.iconst 1, 1) := by decide +kernel
theorem d_A_imageAt_2 : decode b_A_imageAt 2 = .ok (.iand, 1) := by decide +kernel
theorem d_A_imageAt_3 : decode b_A_imageAt 3 = .ok (.ifCond .ne 7, 3) := by decide +kernel
theorem d_A_imageAt_6 : decode b_A_imageAt 6 = .ok (.iconst 1, 1) := by decide +kernel
theorem d_A_imageAt_7 : decode b_A_imageAt 7 = .ok (.goto 4, 3) := by decide +kernel
theorem d_A_imageAt_10 : decode b_A_imageAt 10 = .ok (.iconst 0, 1) := by decide +kernel
theorem d_A_imageAt_11 : decode b_A_imageAt 11 = .ok (.istore_n 2, 1) := by decide +kernel
theorem d_A_imageAt_12 : decode b_A_imageAt 12 = .ok (.iload_n 1, 1) := by decide +kernel
theorem d_A_imageAt_13 : decode b_A_imageAt 13 = .ok (.aload_n 0, 1) := by decide +kernel
theorem d_A_imageAt_14 : decode b_A_imageAt 14 = .ok (.getfield 19, 3) := by decide +kernel
theorem d_A_imageAt_17 : decode b_A_imageAt 17 = .ok (.imul, 1) := by decide +kernel
theorem d_A_imageAt_18 : decode b_A_imageAt 18 = .ok (.iload_n 2, 1) := by decide +kernel
theorem d_A_imageAt_19 : decode b_A_imageAt 19 = .ok (.ifCond .eq 10, 3) := by decide +kernel
theorem d_A_imageAt_22 : decode b_A_imageAt 22 = .ok (.aload_n 0, 1) := by decide +kernel
theorem d_A_imageAt_23 : decode b_A_imageAt 23 = .ok (.getfield 30, 3) := by decide +kernel
theorem d_A_imageAt_26 : decode b_A_imageAt 26 = .ok (.goto 12, 3) := by decide +kernel
theorem d_A_imageAt_29 : decode b_A_imageAt 29 = .ok (.aload_n 0, 1) := by decide +kernel
theorem d_A_imageAt_30 : decode b_A_imageAt 30 = .ok (.getfield 19, 3) := by decide +kernel
theorem d_A_imageAt_33 : decode b_A_imageAt 33 = .ok (.aload_n 0, 1) := by decide +kernel
theorem d_A_imageAt_34 : decode b_A_imageAt 34 = .ok (.getfield 30, 3) := by decide +kernel
theorem d_A_imageAt_37 : decode b_A_imageAt 37 = .ok (.isub, 1) := by decide +kernel
theorem d_A_imageAt_38 : decode b_A_imageAt 38 = .ok (.iadd, 1) := by decide +kernel
theorem d_A_imageAt_39 : decode b_A_imageAt 39 = .ok (.ireturn, 1) := by decide +kernel
theorem d_A_order_0 : decode b_A_order 0 = .ok (.aload_n 0, 1) := by decide +kernel
theorem d_A_order_1 : decode b_A_order 1 = .ok (.iconst 0, 1) := by decide +kernel
theorem d_A_order_2 : decode b_A_order 2 = .ok (.iconst 0, 1) := by decide +kernel
theorem d_A_order_3 : decode b_A_order 3 = .ok (.invokevirtual 33, 3) := by decide +kernel
theorem d_A_order_6 : decode b_A_order 6 = .ok (.iconst 1, 1) := by decide +kernel
theorem d_A_order_7 : decode b_A_order 7 = .ok (.istore_n 1, 1) := by decide +kernel
theorem d_A_order_8 : decode b_A_order 8 = .ok (.iload_n 1, 1) := by decide +kernel
theorem d_A_order_9 : decode b_A_order 9 = .ok (.bipush 40, 2) := by decide +kernel
theorem d_A_order_11 : decode b_A_order 11 = .ok (.if_icmp .gt 28, 3) := by decide +kernel
theorem d_A_order_14 : decode b_A_order 14 = .ok (.aload_n 0, 1) := by decide +kernel
theorem d_A_order_15 : decode b_A_order 15 = .ok (.iload_n 1, 1) := by decide +kernel
theorem d_A_order_16 : decode b_A_order 16 = .ok (.ineg, 1) := by decide +kernel
theorem d_A_order_17 : decode b_A_order 17 = .ok (.iconst 2, 1) := by decide +kernel
theorem d_A_order_18 : decode b_A_order 18 = .ok (.iload_n 1, 1) := by decide +kernel
theorem d_A_order_19 : decode b_A_order 19 = .ok (.imul, 1) := by decide +kernel
theorem d_A_order_20 : decode b_A_order 20 = .ok (.iconst 1, 1) := by decide +kernel
theorem d_A_order_21 : decode b_A_order 21 = .ok (.isub, 1) := by decide +kernel
theorem d_A_order_22 : decode b_A_order 22 = .ok (.invokevirtual 33, 3) := by decide +kernel
theorem d_A_order_25 : decode b_A_order 25 = .ok (.aload_n 0, 1) := by decide +kernel
theorem d_A_order_26 : decode b_A_order 26 = .ok (.iload_n 1, 1) := by decide +kernel
theorem d_A_order_27 : decode b_A_order 27 = .ok (.iconst 2, 1) := by decide +kernel
theorem d_A_order_28 : decode b_A_order 28 = .ok (.iload_n 1, 1) := by decide +kernel
theorem d_A_order_29 : decode b_A_order 29 = .ok (.imul, 1) := by decide +kernel
theorem d_A_order_30 : decode b_A_order 30 = .ok (.invokevirtual 33, 3) := by decide +kernel
theorem d_A_order_33 : decode b_A_order 33 = .ok (.iinc 1 1, 3) := by decide +kernel
theorem d_A_order_36 : decode b_A_order 36 = .ok (.goto (-28), 3) := by decide +kernel
theorem d_A_order_39 : decode b_A_order 39 = .ok (.iconst 0, 1) := by decide +kernel
theorem d_A_order_40 : decode b_A_order 40 = .ok (.istore_n 1, 1) := by decide +kernel
theorem d_A_order_41 : decode b_A_order 41 = .ok (.iload_n 1, 1) := by decide +kernel
theorem d_A_order_42 : decode b_A_order 42 = .ok (.bipush 81, 2) := by decide +kernel
theorem d_A_order_44 : decode b_A_order 44 = .ok (.if_icmp .ge 35, 3) := by decide +kernel
theorem d_A_order_47 : decode b_A_order 47 = .ok (.aload_n 0, 1) := by decide +kernel
theorem d_A_order_48 : decode b_A_order 48 = .ok (.iload_n 1, 1) := by decide +kernel
theorem d_A_order_49 : decode b_A_order 49 = .ok (.invokevirtual 37, 3) := by decide +kernel
theorem d_A_order_52 : decode b_A_order 52 = .ok (.bipush 40, 2) := by decide +kernel
theorem d_A_order_54 : decode b_A_order 54 = .ok (.iadd, 1) := by decide +kernel
theorem d_A_order_55 : decode b_A_order 55 = .ok (.istore_n 2, 1) := by decide +kernel
theorem d_A_order_56 : decode b_A_order 56 = .ok (.iload_n 2, 1) := by decide +kernel
theorem d_A_order_57 : decode b_A_order 57 = .ok (.ifCond .lt 16, 3) := by decide +kernel
theorem d_A_order_60 : decode b_A_order 60 = .ok (.iload_n 2, 1) := by decide +kernel
theorem d_A_order_61 : decode b_A_order 61 = .ok (.bipush 81, 2) := by decide +kernel
theorem d_A_order_63 : decode b_A_order 63 = .ok (.if_icmp .ge 10, 3) := by decide +kernel
theorem d_A_order_66 : decode b_A_order 66 = .ok (.aload_n 0, 1) := by decide +kernel
theorem d_A_order_67 : decode b_A_order 67 = .ok (.getfield 15, 3) := by decide +kernel
theorem d_A_order_70 : decode b_A_order 70 = .ok (.iload_n 2, 1) := by decide +kernel
theorem d_A_order_71 : decode b_A_order 71 = .ok (.iload_n 1, 1) := by decide +kernel
theorem d_A_order_72 : decode b_A_order 72 = .ok (.iastore, 1) := by decide +kernel
theorem d_A_order_73 : decode b_A_order 73 = .ok (.iinc 1 1, 3) := by decide +kernel
theorem d_A_order_76 : decode b_A_order 76 = .ok (.goto (-35), 3) := by decide +kernel
theorem d_A_order_79 : decode b_A_order 79 = .ok (.return_, 1) := by decide +kernel
theorem d_A_insert_0 : decode b_A_insert 0 = .ok (.iload_n 2, 1) := by decide +kernel
theorem d_A_insert_1 : decode b_A_insert 1 = .ok (.ifCond .lt 9, 3) := by decide +kernel
theorem d_A_insert_4 : decode b_A_insert 4 = .ok (.iload_n 2, 1) := by decide +kernel
theorem d_A_insert_5 : decode b_A_insert 5 = .ok (.bipush 81, 2) := by decide +kernel
theorem d_A_insert_7 : decode b_A_insert 7 = .ok (.if_icmp .lt 4, 3) := by decide +kernel
theorem d_A_insert_10 : decode b_A_insert 10 = .ok (.return_, 1) := by decide +kernel
theorem d_A_insert_11 : decode b_A_insert 11 = .ok (.aload_n 0, 1) := by decide +kernel
theorem d_A_insert_12 : decode b_A_insert 12 = .ok (.iload_n 1, 1) := by decide +kernel
theorem d_A_insert_13 : decode b_A_insert 13 = .ok (.invokevirtual 40, 3) := by decide +kernel
theorem d_A_insert_16 : decode b_A_insert 16 = .ok (.iload_n 1, 1) := by decide +kernel
theorem d_A_insert_17 : decode b_A_insert 17 = .ok (.invokestatic 44, 3) := by decide +kernel
theorem d_A_insert_20 : decode b_A_insert 20 = .ok (.lstore_n 3, 1) := by decide +kernel
theorem d_A_insert_21 : decode b_A_insert 21 = .ok (.iload_n 2, 1) := by decide +kernel
theorem d_A_insert_22 : decode b_A_insert 22 = .ok (.istore 5, 2) := by decide +kernel
theorem d_A_insert_24 : decode b_A_insert 24 = .ok (.iload 5, 2) := by decide +kernel
theorem d_A_insert_26 : decode b_A_insert 26 = .ok (.ifCond .le 39, 3) := by decide +kernel
theorem d_A_insert_29 : decode b_A_insert 29 = .ok (.aload_n 0, 1) := by decide +kernel
theorem d_A_insert_30 : decode b_A_insert 30 = .ok (.getfield 9, 3) := by decide +kernel
theorem d_A_insert_33 : decode b_A_insert 33 = .ok (.iload 5, 2) := by decide +kernel
theorem d_A_insert_35 : decode b_A_insert 35 = .ok (.iconst 1, 1) := by decide +kernel
theorem d_A_insert_36 : decode b_A_insert 36 = .ok (.isub, 1) := by decide +kernel
theorem d_A_insert_37 : decode b_A_insert 37 = .ok (.laload, 1) := by decide +kernel
theorem d_A_insert_38 : decode b_A_insert 38 = .ok (.lload_n 3, 1) := by decide +kernel
theorem d_A_insert_39 : decode b_A_insert 39 = .ok (.lcmp, 1) := by decide +kernel
theorem d_A_insert_40 : decode b_A_insert 40 = .ok (.ifCond .le 25, 3) := by decide +kernel
theorem d_A_insert_43 : decode b_A_insert 43 = .ok (.aload_n 0, 1) := by decide +kernel
theorem d_A_insert_44 : decode b_A_insert 44 = .ok (.getfield 9, 3) := by decide +kernel
theorem d_A_insert_47 : decode b_A_insert 47 = .ok (.iload 5, 2) := by decide +kernel
theorem d_A_insert_49 : decode b_A_insert 49 = .ok (.aload_n 0, 1) := by decide +kernel
theorem d_A_insert_50 : decode b_A_insert 50 = .ok (.getfield 9, 3) := by decide +kernel
theorem d_A_insert_53 : decode b_A_insert 53 = .ok (.iload 5, 2) := by decide +kernel
theorem d_A_insert_55 : decode b_A_insert 55 = .ok (.iconst 1, 1) := by decide +kernel
theorem d_A_insert_56 : decode b_A_insert 56 = .ok (.isub, 1) := by decide +kernel
theorem d_A_insert_57 : decode b_A_insert 57 = .ok (.laload, 1) := by decide +kernel
theorem d_A_insert_58 : decode b_A_insert 58 = .ok (.lastore, 1) := by decide +kernel
theorem d_A_insert_59 : decode b_A_insert 59 = .ok (.iinc 5 (-1), 3) := by decide +kernel
theorem d_A_insert_62 : decode b_A_insert 62 = .ok (.goto (-38), 3) := by decide +kernel
theorem d_A_insert_65 : decode b_A_insert 65 = .ok (.aload_n 0, 1) := by decide +kernel
theorem d_A_insert_66 : decode b_A_insert 66 = .ok (.getfield 9, 3) := by decide +kernel
theorem d_A_insert_69 : decode b_A_insert 69 = .ok (.iload 5, 2) := by decide +kernel
theorem d_A_insert_71 : decode b_A_insert 71 = .ok (.lload_n 3, 1) := by decide +kernel
theorem d_A_insert_72 : decode b_A_insert 72 = .ok (.lastore, 1) := by decide +kernel
theorem d_A_insert_73 : decode b_A_insert 73 = .ok (.return_, 1) := by decide +kernel
theorem d_A_squareAt_0 : decode b_A_squareAt 0 = .ok (.iload_n 1, 1) := by decide +kernel
theorem d_A_squareAt_1 : decode b_A_squareAt 1 = .ok (.ifCond .lt 21, 3) := by decide +kernel
theorem d_A_squareAt_4 : decode b_A_squareAt 4 = .ok (.iload_n 1, 1) := by decide +kernel
theorem d_A_squareAt_5 : decode b_A_squareAt 5 = .ok (.bipush 81, 2) := by decide +kernel
theorem d_A_squareAt_7 : decode b_A_squareAt 7 = .ok (.if_icmp .ge 15, 3) := by decide +kernel
theorem d_A_squareAt_10 : decode b_A_squareAt 10 = .ok (.aload_n 0, 1) := by decide +kernel
theorem d_A_squareAt_11 : decode b_A_squareAt 11 = .ok (.getfield 9, 3) := by decide +kernel
theorem d_A_squareAt_14 : decode b_A_squareAt 14 = .ok (.iload_n 1, 1) := by decide +kernel
theorem d_A_squareAt_15 : decode b_A_squareAt 15 = .ok (.laload, 1) := by decide +kernel
theorem d_A_squareAt_16 : decode b_A_squareAt 16 = .ok (.bipush 7, 2) := by decide +kernel
theorem d_A_squareAt_18 : decode b_A_squareAt 18 = .ok (.lshr, 1) := by decide +kernel
theorem d_A_squareAt_19 : decode b_A_squareAt 19 = .ok (.goto 4, 3) := by decide +kernel
theorem d_A_squareAt_22 : decode b_A_squareAt 22 = .ok (.lconst 0, 1) := by decide +kernel
theorem d_A_squareAt_23 : decode b_A_squareAt 23 = .ok (.lreturn, 1) := by decide +kernel
theorem d_A_numberAt_0 : decode b_A_numberAt 0 = .ok (.iload_n 1, 1) := by decide +kernel
theorem d_A_numberAt_1 : decode b_A_numberAt 1 = .ok (.ifCond .lt 21, 3) := by decide +kernel
theorem d_A_numberAt_4 : decode b_A_numberAt 4 = .ok (.iload_n 1, 1) := by decide +kernel
theorem d_A_numberAt_5 : decode b_A_numberAt 5 = .ok (.bipush 81, 2) := by decide +kernel
theorem d_A_numberAt_7 : decode b_A_numberAt 7 = .ok (.if_icmp .ge 15, 3) := by decide +kernel
theorem d_A_numberAt_10 : decode b_A_numberAt 10 = .ok (.aload_n 0, 1) := by decide +kernel
theorem d_A_numberAt_11 : decode b_A_numberAt 11 = .ok (.getfield 9, 3) := by decide +kernel
theorem d_A_numberAt_14 : decode b_A_numberAt 14 = .ok (.iload_n 1, 1) := by decide +kernel
theorem d_A_numberAt_15 : decode b_A_numberAt 15 = .ok (.laload, 1) := by decide +kernel
theorem d_A_numberAt_16 : decode b_A_numberAt 16 = .ok (.invokestatic 48, 3) := by decide +kernel
theorem d_A_numberAt_19 : decode b_A_numberAt 19 = .ok (.goto 4, 3) := by decide +kernel
theorem d_A_numberAt_22 : decode b_A_numberAt 22 = .ok (.iconst 0, 1) := by decide +kernel
theorem d_A_numberAt_23 : decode b_A_numberAt 23 = .ok (.ireturn, 1) := by decide +kernel
theorem d_A_rankOf_0 : decode b_A_rankOf 0 = .ok (.iload_n 1, 1) := by decide +kernel
theorem d_A_rankOf_1 : decode b_A_rankOf 1 = .ok (.bipush 40, 2) := by decide +kernel
theorem d_A_rankOf_3 : decode b_A_rankOf 3 = .ok (.iadd, 1) := by decide +kernel
theorem d_A_rankOf_4 : decode b_A_rankOf 4 = .ok (.istore_n 2, 1) := by decide +kernel
theorem d_A_rankOf_5 : decode b_A_rankOf 5 = .ok (.iload_n 2, 1) := by decide +kernel
theorem d_A_rankOf_6 : decode b_A_rankOf 6 = .ok (.ifCond .lt 18, 3) := by decide +kernel
theorem d_A_rankOf_9 : decode b_A_rankOf 9 = .ok (.iload_n 2, 1) := by decide +kernel
theorem d_A_rankOf_10 : decode b_A_rankOf 10 = .ok (.bipush 81, 2) := by decide +kernel
theorem d_A_rankOf_12 : decode b_A_rankOf 12 = .ok (.if_icmp .ge 12, 3) := by decide +kernel
theorem d_A_rankOf_15 : decode b_A_rankOf 15 = .ok (.aload_n 0, 1) := by decide +kernel
theorem d_A_rankOf_16 : decode b_A_rankOf 16 = .ok (.getfield 15, 3) := by decide +kernel
theorem d_A_rankOf_19 : decode b_A_rankOf 19 = .ok (.iload_n 2, 1) := by decide +kernel
theorem d_A_rankOf_20 : decode b_A_rankOf 20 = .ok (.iaload, 1) := by decide +kernel
theorem d_A_rankOf_21 : decode b_A_rankOf 21 = .ok (.goto 5, 3) := by decide +kernel
theorem d_A_rankOf_24 : decode b_A_rankOf 24 = .ok (.bipush 81, 2) := by decide +kernel
theorem d_A_rankOf_26 : decode b_A_rankOf 26 = .ok (.ireturn, 1) := by decide +kernel
theorem d_F_init_0 : decode b_F_init 0 = .ok (.aload_n 0, 1) := by decide +kernel
theorem d_F_init_1 : decode b_F_init 1 = .ok (.invokespecial 3, 3) := by decide +kernel
theorem d_F_init_4 : decode b_F_init 4 = .ok (.aload_n 0, 1) := by decide +kernel
theorem d_F_init_5 : decode b_F_init 5 = .ok (.sipush 1001, 3) := by decide +kernel
theorem d_F_init_8 : decode b_F_init 8 = .ok (.newarray .long, 2) := by decide +kernel
theorem d_F_init_10 : decode b_F_init 10 = .ok (.putfield 9, 3) := by decide +kernel
theorem d_F_init_13 : decode b_F_init 13 = .ok (.return_, 1) := by decide +kernel
theorem d_F_clear_0 : decode b_F_clear 0 = .ok (.aload_n 0, 1) := by decide +kernel
theorem d_F_clear_1 : decode b_F_clear 1 = .ok (.iconst 0, 1) := by decide +kernel
theorem d_F_clear_2 : decode b_F_clear 2 = .ok (.putfield 15, 3) := by decide +kernel
theorem d_F_clear_5 : decode b_F_clear 5 = .ok (.return_, 1) := by decide +kernel
theorem d_F_add_0 : decode b_F_add 0 = .ok (.aload_n 0, 1) := by decide +kernel
theorem d_F_add_1 : decode b_F_add 1 = .ok (.getfield 15, 3) := by decide +kernel
theorem d_F_add_4 : decode b_F_add 4 = .ok (.aload_n 0, 1) := by decide +kernel
theorem d_F_add_5 : decode b_F_add 5 = .ok (.getfield 9, 3) := by decide +kernel
theorem d_F_add_8 : decode b_F_add 8 = .ok (.arraylength, 1) := by decide +kernel
theorem d_F_add_9 : decode b_F_add 9 = .ok (.if_icmp .lt 4, 3) := by decide +kernel
theorem d_F_add_12 : decode b_F_add 12 = .ok (.return_, 1) := by decide +kernel
theorem d_F_add_13 : decode b_F_add 13 = .ok (.aload_n 0, 1) := by decide +kernel
theorem d_F_add_14 : decode b_F_add 14 = .ok (.getfield 15, 3) := by decide +kernel
theorem d_F_add_17 : decode b_F_add 17 = .ok (.istore_n 3, 1) := by decide +kernel
theorem d_F_add_18 : decode b_F_add 18 = .ok (.aload_n 0, 1) := by decide +kernel
theorem d_F_add_19 : decode b_F_add 19 = .ok (.dup, 1) := by decide +kernel
theorem d_F_add_20 : decode b_F_add 20 = .ok (.getfield 15, 3) := by decide +kernel
theorem d_F_add_23 : decode b_F_add 23 = .ok (.iconst 1, 1) := by decide +kernel
theorem d_F_add_24 : decode b_F_add 24 = .ok (.iadd, 1) := by decide +kernel
theorem d_F_add_25 : decode b_F_add 25 = .ok (.putfield 15, 3) := by decide +kernel
theorem d_F_add_28 : decode b_F_add 28 = .ok (.iload_n 3, 1) := by decide +kernel
theorem d_F_add_29 : decode b_F_add 29 = .ok (.ifCond .le 43, 3) := by decide +kernel
theorem d_F_add_32 : decode b_F_add 32 = .ok (.aload_n 0, 1) := by decide +kernel
theorem d_F_add_33 : decode b_F_add 33 = .ok (.getfield 9, 3) := by decide +kernel
theorem d_F_add_36 : decode b_F_add 36 = .ok (.iload_n 3, 1) := by decide +kernel
theorem d_F_add_37 : decode b_F_add 37 = .ok (.iconst 1, 1) := by decide +kernel
theorem d_F_add_38 : decode b_F_add 38 = .ok (.isub, 1) := by decide +kernel
theorem d_F_add_39 : decode b_F_add 39 = .ok (.iconst 2, 1) := by decide +kernel
theorem d_F_add_40 : decode b_F_add 40 = .ok (.idiv, 1) := by decide +kernel
theorem d_F_add_41 : decode b_F_add 41 = .ok (.laload, 1) := by decide +kernel
theorem d_F_add_42 : decode b_F_add 42 = .ok (.lload_n 1, 1) := by decide +kernel
theorem d_F_add_43 : decode b_F_add 43 = .ok (.lcmp, 1) := by decide +kernel
theorem d_F_add_44 : decode b_F_add 44 = .ok (.ifCond .le 28, 3) := by decide +kernel
theorem d_F_add_47 : decode b_F_add 47 = .ok (.aload_n 0, 1) := by decide +kernel
theorem d_F_add_48 : decode b_F_add 48 = .ok (.getfield 9, 3) := by decide +kernel
theorem d_F_add_51 : decode b_F_add 51 = .ok (.iload_n 3, 1) := by decide +kernel
theorem d_F_add_52 : decode b_F_add 52 = .ok (.aload_n 0, 1) := by decide +kernel
theorem d_F_add_53 : decode b_F_add 53 = .ok (.getfield 9, 3) := by decide +kernel
theorem d_F_add_56 : decode b_F_add 56 = .ok (.iload_n 3, 1) := by decide +kernel
theorem d_F_add_57 : decode b_F_add 57 = .ok (.iconst 1, 1) := by decide +kernel
theorem d_F_add_58 : decode b_F_add 58 = .ok (.isub, 1) := by decide +kernel
theorem d_F_add_59 : decode b_F_add 59 = .ok (.iconst 2, 1) := by decide +kernel
theorem d_F_add_60 : decode b_F_add 60 = .ok (.idiv, 1) := by decide +kernel
theorem d_F_add_61 : decode b_F_add 61 = .ok (.laload, 1) := by decide +kernel
theorem d_F_add_62 : decode b_F_add 62 = .ok (.lastore, 1) := by decide +kernel
theorem d_F_add_63 : decode b_F_add 63 = .ok (.iload_n 3, 1) := by decide +kernel
theorem d_F_add_64 : decode b_F_add 64 = .ok (.iconst 1, 1) := by decide +kernel
theorem d_F_add_65 : decode b_F_add 65 = .ok (.isub, 1) := by decide +kernel
theorem d_F_add_66 : decode b_F_add 66 = .ok (.iconst 2, 1) := by decide +kernel
theorem d_F_add_67 : decode b_F_add 67 = .ok (.idiv, 1) := by decide +kernel
theorem d_F_add_68 : decode b_F_add 68 = .ok (.istore_n 3, 1) := by decide +kernel
theorem d_F_add_69 : decode b_F_add 69 = .ok (.goto (-41), 3) := by decide +kernel
theorem d_F_add_72 : decode b_F_add 72 = .ok (.aload_n 0, 1) := by decide +kernel
theorem d_F_add_73 : decode b_F_add 73 = .ok (.getfield 9, 3) := by decide +kernel
theorem d_F_add_76 : decode b_F_add 76 = .ok (.iload_n 3, 1) := by decide +kernel
theorem d_F_add_77 : decode b_F_add 77 = .ok (.lload_n 1, 1) := by decide +kernel
theorem d_F_add_78 : decode b_F_add 78 = .ok (.lastore, 1) := by decide +kernel
theorem d_F_add_79 : decode b_F_add 79 = .ok (.return_, 1) := by decide +kernel
theorem d_F_takeLeast_0 : decode b_F_takeLeast 0 = .ok (.aload_n 0, 1) := by decide +kernel
theorem d_F_takeLeast_1 : decode b_F_takeLeast 1 = .ok (.getfield 15, 3) := by decide +kernel
theorem d_F_takeLeast_4 : decode b_F_takeLeast 4 = .ok (.iconst 1, 1) := by decide +kernel
theorem d_F_takeLeast_5 : decode b_F_takeLeast 5 = .ok (.if_icmp .ge 5, 3) := by decide +kernel
theorem d_F_takeLeast_8 : decode b_F_takeLeast 8 = .ok (.lconst 0, 1) := by decide +kernel
theorem d_F_takeLeast_9 : decode b_F_takeLeast 9 = .ok (.lreturn, 1) := by decide +kernel
theorem d_F_takeLeast_10 : decode b_F_takeLeast 10 = .ok (.aload_n 0, 1) := by decide +kernel
theorem d_F_takeLeast_11 : decode b_F_takeLeast 11 = .ok (.getfield 9, 3) := by decide +kernel
theorem d_F_takeLeast_14 : decode b_F_takeLeast 14 = .ok (.iconst 0, 1) := by decide +kernel
theorem d_F_takeLeast_15 : decode b_F_takeLeast 15 = .ok (.laload, 1) := by decide +kernel
theorem d_F_takeLeast_16 : decode b_F_takeLeast 16 = .ok (.lstore_n 1, 1) := by decide +kernel
theorem d_F_takeLeast_17 : decode b_F_takeLeast 17 = .ok (.aload_n 0, 1) := by decide +kernel
theorem d_F_takeLeast_18 : decode b_F_takeLeast 18 = .ok (.dup, 1) := by decide +kernel
theorem d_F_takeLeast_19 : decode b_F_takeLeast 19 = .ok (.getfield 15, 3) := by decide +kernel
theorem d_F_takeLeast_22 : decode b_F_takeLeast 22 = .ok (.iconst 1, 1) := by decide +kernel
theorem d_F_takeLeast_23 : decode b_F_takeLeast 23 = .ok (.isub, 1) := by decide +kernel
theorem d_F_takeLeast_24 : decode b_F_takeLeast 24 = .ok (.putfield 15, 3) := by decide +kernel
theorem d_F_takeLeast_27 : decode b_F_takeLeast 27 = .ok (.aload_n 0, 1) := by decide +kernel
theorem d_F_takeLeast_28 : decode b_F_takeLeast 28 = .ok (.aload_n 0, 1) := by decide +kernel
theorem d_F_takeLeast_29 : decode b_F_takeLeast 29 = .ok (.getfield 9, 3) := by decide +kernel
theorem d_F_takeLeast_32 : decode b_F_takeLeast 32 = .ok (.aload_n 0, 1) := by decide +kernel
theorem d_F_takeLeast_33 : decode b_F_takeLeast 33 = .ok (.getfield 15, 3) := by decide +kernel
theorem d_F_takeLeast_36 : decode b_F_takeLeast 36 = .ok (.laload, 1) := by decide +kernel
theorem d_F_takeLeast_37 : decode b_F_takeLeast 37 = .ok (.invokevirtual 19, 3) := by decide +kernel
theorem d_F_takeLeast_40 : decode b_F_takeLeast 40 = .ok (.lload_n 1, 1) := by decide +kernel
theorem d_F_takeLeast_41 : decode b_F_takeLeast 41 = .ok (.lreturn, 1) := by decide +kernel
theorem d_F_sinkFromTop_0 : decode b_F_sinkFromTop 0 = .ok (.iconst 0, 1) := by decide +kernel
theorem d_F_sinkFromTop_1 : decode b_F_sinkFromTop 1 = .ok (.istore_n 3, 1) := by decide +kernel
theorem d_F_sinkFromTop_2 : decode b_F_sinkFromTop 2 = .ok (.iconst 1, 1) := by decide +kernel
theorem d_F_sinkFromTop_3 : decode b_F_sinkFromTop 3 = .ok (.istore 4, 2) := by decide +kernel
theorem d_F_sinkFromTop_5 : decode b_F_sinkFromTop 5 = .ok (.iload 4, 2) := by decide +kernel
theorem d_F_sinkFromTop_7 : decode b_F_sinkFromTop 7 = .ok (.aload_n 0, 1) := by decide +kernel
theorem d_F_sinkFromTop_8 : decode b_F_sinkFromTop 8 = .ok (.getfield 15, 3) := by decide +kernel
theorem d_F_sinkFromTop_11 : decode b_F_sinkFromTop 11 = .ok (.if_icmp .ge 78, 3) := by decide +kernel
theorem d_F_sinkFromTop_14 : decode b_F_sinkFromTop 14 = .ok (.iload 4, 2) := by decide +kernel
theorem d_F_sinkFromTop_16 : decode b_F_sinkFromTop 16 = .ok (.iconst 1, 1) := by decide +kernel
theorem d_F_sinkFromTop_17 : decode b_F_sinkFromTop 17 = .ok (.iadd, 1) := by decide +kernel
theorem d_F_sinkFromTop_18 : decode b_F_sinkFromTop 18 = .ok (.aload_n 0, 1) := by decide +kernel
theorem d_F_sinkFromTop_19 : decode b_F_sinkFromTop 19 = .ok (.getfield 15, 3) := by decide +kernel
theorem d_F_sinkFromTop_22 : decode b_F_sinkFromTop 22 = .ok (.if_icmp .ge 26, 3) := by decide +kernel
theorem d_F_sinkFromTop_25 : decode b_F_sinkFromTop 25 = .ok (.aload_n 0, 1) := by decide +kernel
theorem d_F_sinkFromTop_26 : decode b_F_sinkFromTop 26 = .ok (.getfield 9, 3) := by decide +kernel
theorem d_F_sinkFromTop_29 : decode b_F_sinkFromTop 29 = .ok (.iload 4, 2) := by decide +kernel
theorem d_F_sinkFromTop_31 : decode b_F_sinkFromTop 31 = .ok (.iconst 1, 1) := by decide +kernel
theorem d_F_sinkFromTop_32 : decode b_F_sinkFromTop 32 = .ok (.iadd, 1) := by decide +kernel
theorem d_F_sinkFromTop_33 : decode b_F_sinkFromTop 33 = .ok (.laload, 1) := by decide +kernel
theorem d_F_sinkFromTop_34 : decode b_F_sinkFromTop 34 = .ok (.aload_n 0, 1) := by decide +kernel
theorem d_F_sinkFromTop_35 : decode b_F_sinkFromTop 35 = .ok (.getfield 9, 3) := by decide +kernel
theorem d_F_sinkFromTop_38 : decode b_F_sinkFromTop 38 = .ok (.iload 4, 2) := by decide +kernel
theorem d_F_sinkFromTop_40 : decode b_F_sinkFromTop 40 = .ok (.laload, 1) := by decide +kernel
theorem d_F_sinkFromTop_41 : decode b_F_sinkFromTop 41 = .ok (.lcmp, 1) := by decide +kernel
theorem d_F_sinkFromTop_42 : decode b_F_sinkFromTop 42 = .ok (.ifCond .ge 6, 3) := by decide +kernel
theorem d_F_sinkFromTop_45 : decode b_F_sinkFromTop 45 = .ok (.iinc 4 1, 3) := by decide +kernel
theorem d_F_sinkFromTop_48 : decode b_F_sinkFromTop 48 = .ok (.aload_n 0, 1) := by decide +kernel
theorem d_F_sinkFromTop_49 : decode b_F_sinkFromTop 49 = .ok (.getfield 9, 3) := by decide +kernel
theorem d_F_sinkFromTop_52 : decode b_F_sinkFromTop 52 = .ok (.iload 4, 2) := by decide +kernel
theorem d_F_sinkFromTop_54 : decode b_F_sinkFromTop 54 = .ok (.laload, 1) := by decide +kernel
theorem d_F_sinkFromTop_55 : decode b_F_sinkFromTop 55 = .ok (.lload_n 1, 1) := by decide +kernel
theorem d_F_sinkFromTop_56 : decode b_F_sinkFromTop 56 = .ok (.lcmp, 1) := by decide +kernel
theorem d_F_sinkFromTop_57 : decode b_F_sinkFromTop 57 = .ok (.ifCond .lt 6, 3) := by decide +kernel
theorem d_F_sinkFromTop_60 : decode b_F_sinkFromTop 60 = .ok (.goto 29, 3) := by decide +kernel
theorem d_F_sinkFromTop_63 : decode b_F_sinkFromTop 63 = .ok (.aload_n 0, 1) := by decide +kernel
theorem d_F_sinkFromTop_64 : decode b_F_sinkFromTop 64 = .ok (.getfield 9, 3) := by decide +kernel
theorem d_F_sinkFromTop_67 : decode b_F_sinkFromTop 67 = .ok (.iload_n 3, 1) := by decide +kernel
theorem d_F_sinkFromTop_68 : decode b_F_sinkFromTop 68 = .ok (.aload_n 0, 1) := by decide +kernel
theorem d_F_sinkFromTop_69 : decode b_F_sinkFromTop 69 = .ok (.getfield 9, 3) := by decide +kernel
theorem d_F_sinkFromTop_72 : decode b_F_sinkFromTop 72 = .ok (.iload 4, 2) := by decide +kernel
theorem d_F_sinkFromTop_74 : decode b_F_sinkFromTop 74 = .ok (.laload, 1) := by decide +kernel
theorem d_F_sinkFromTop_75 : decode b_F_sinkFromTop 75 = .ok (.lastore, 1) := by decide +kernel
