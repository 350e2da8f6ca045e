theorem d_F_lesserOf_0 : decode b_F_lesserOf 0 = .ok (.iload_n 1, 1) := by decide +kernel
theorem d_F_lesserOf_1 : decode b_F_lesserOf 1 = .ok (.iconst 1, 1) := by decide +kernel
theorem d_F_lesserOf_2 : decode b_F_lesserOf 2 = .ok (.iadd, 1) := by decide +kernel
theorem d_F_lesserOf_3 : decode b_F_lesserOf 3 = .ok (.istore_n 2, 1) := by decide +kernel
theorem d_F_lesserOf_4 : decode b_F_lesserOf 4 = .ok (.iload_n 2, 1) := by decide +kernel
theorem d_F_lesserOf_5 : decode b_F_lesserOf 5 = .ok (.aload_n 0, 1) := by decide +kernel
theorem d_F_lesserOf_6 : decode b_F_lesserOf 6 = .ok (.getfield 15, 3) := by decide +kernel
theorem d_F_lesserOf_9 : decode b_F_lesserOf 9 = .ok (.if_icmp .ge 23, 3) := by decide +kernel
theorem d_F_lesserOf_12 : decode b_F_lesserOf 12 = .ok (.aload_n 0, 1) := by decide +kernel
theorem d_F_lesserOf_13 : decode b_F_lesserOf 13 = .ok (.getfield 9, 3) := by decide +kernel
theorem d_F_lesserOf_16 : decode b_F_lesserOf 16 = .ok (.iload_n 2, 1) := by decide +kernel
theorem d_F_lesserOf_17 : decode b_F_lesserOf 17 = .ok (.laload, 1) := by decide +kernel
theorem d_F_lesserOf_18 : decode b_F_lesserOf 18 = .ok (.aload_n 0, 1) := by decide +kernel
theorem d_F_lesserOf_19 : decode b_F_lesserOf 19 = .ok (.getfield 9, 3) := by decide +kernel
theorem d_F_lesserOf_22 : decode b_F_lesserOf 22 = .ok (.iload_n 1, 1) := by decide +kernel
theorem d_F_lesserOf_23 : decode b_F_lesserOf 23 = .ok (.laload, 1) := by decide +kernel
theorem d_F_lesserOf_24 : decode b_F_lesserOf 24 = .ok (.lcmp, 1) := by decide +kernel
theorem d_F_lesserOf_25 : decode b_F_lesserOf 25 = .ok (.ifCond .ge 7, 3) := by decide +kernel
theorem d_F_lesserOf_28 : decode b_F_lesserOf 28 = .ok (.iload_n 2, 1) := by decide +kernel
theorem d_F_lesserOf_29 : decode b_F_lesserOf 29 = .ok (.goto 4, 3) := by decide +kernel
theorem d_F_lesserOf_32 : decode b_F_lesserOf 32 = .ok (.iload_n 1, 1) := by decide +kernel
theorem d_F_lesserOf_33 : decode b_F_lesserOf 33 = .ok (.ireturn, 1) := by decide +kernel
