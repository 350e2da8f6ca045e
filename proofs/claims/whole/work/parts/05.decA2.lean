theorem d_F_sinkFromTop_76 : decode b_F_sinkFromTop 76 = .ok (.iload 4, 2) := by decide +kernel
theorem d_F_sinkFromTop_78 : decode b_F_sinkFromTop 78 = .ok (.istore_n 3, 1) := by decide +kernel
theorem d_F_sinkFromTop_79 : decode b_F_sinkFromTop 79 = .ok (.iconst 2, 1) := by decide +kernel
theorem d_F_sinkFromTop_80 : decode b_F_sinkFromTop 80 = .ok (.iload_n 3, 1) := by decide +kernel
theorem d_F_sinkFromTop_81 : decode b_F_sinkFromTop 81 = .ok (.imul, 1) := by decide +kernel
theorem d_F_sinkFromTop_82 : decode b_F_sinkFromTop 82 = .ok (.iconst 1, 1) := by decide +kernel
theorem d_F_sinkFromTop_83 : decode b_F_sinkFromTop 83 = .ok (.iadd, 1) := by decide +kernel
theorem d_F_sinkFromTop_84 : decode b_F_sinkFromTop 84 = .ok (.istore 4, 2) := by decide +kernel
theorem d_F_sinkFromTop_86 : decode b_F_sinkFromTop 86 = .ok (.goto (-81), 3) := by decide +kernel
theorem d_F_sinkFromTop_89 : decode b_F_sinkFromTop 89 = .ok (.aload_n 0, 1) := by decide +kernel
theorem d_F_sinkFromTop_90 : decode b_F_sinkFromTop 90 = .ok (.getfield 9, 3) := by decide +kernel
theorem d_F_sinkFromTop_93 : decode b_F_sinkFromTop 93 = .ok (.iload_n 3, 1) := by decide +kernel
theorem d_F_sinkFromTop_94 : decode b_F_sinkFromTop 94 = .ok (.lload_n 1, 1) := by decide +kernel
theorem d_F_sinkFromTop_95 : decode b_F_sinkFromTop 95 = .ok (.lastore, 1) := by decide +kernel
theorem d_F_sinkFromTop_96 : decode b_F_sinkFromTop 96 = .ok (.return_, 1) := by decide +kernel
