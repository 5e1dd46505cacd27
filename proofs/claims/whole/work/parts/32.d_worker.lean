theorem d_Wo_init_0 : decode b_Wo_init 0 = .ok (.aload_n 0, 1) := by decide +kernel
theorem d_Wo_init_1 : decode b_Wo_init 1 = .ok (.invokespecial 3, 3) := by decide +kernel
theorem d_Wo_init_4 : decode b_Wo_init 4 = .ok (.aload_n 0, 1) := by decide +kernel
theorem d_Wo_init_5 : decode b_Wo_init 5 = .ok (.bipush 80, 2) := by decide +kernel
theorem d_Wo_init_7 : decode b_Wo_init 7 = .ok (.newarray .int, 2) := by decide +kernel
theorem d_Wo_init_9 : decode b_Wo_init 9 = .ok (.putfield 9, 3) := by decide +kernel
theorem d_Wo_init_12 : decode b_Wo_init 12 = .ok (.return_, 1) := by decide +kernel
theorem d_Wo_pileUp_0 : decode b_Wo_pileUp 0 = .ok (.aload_n 0, 1) := by decide +kernel
theorem d_Wo_pileUp_1 : decode b_Wo_pileUp 1 = .ok (.getfield 9, 3) := by decide +kernel
theorem d_Wo_pileUp_4 : decode b_Wo_pileUp 4 = .ok (.aload_n 0, 1) := by decide +kernel
theorem d_Wo_pileUp_5 : decode b_Wo_pileUp 5 = .ok (.getfield 15, 3) := by decide +kernel
theorem d_Wo_pileUp_8 : decode b_Wo_pileUp 8 = .ok (.iload_n 1, 1) := by decide +kernel
theorem d_Wo_pileUp_9 : decode b_Wo_pileUp 9 = .ok (.iastore, 1) := by decide +kernel
theorem d_Wo_pileUp_10 : decode b_Wo_pileUp 10 = .ok (.aload_n 0, 1) := by decide +kernel
theorem d_Wo_pileUp_11 : decode b_Wo_pileUp 11 = .ok (.dup, 1) := by decide +kernel
theorem d_Wo_pileUp_12 : decode b_Wo_pileUp 12 = .ok (.getfield 15, 3) := by decide +kernel
theorem d_Wo_pileUp_15 : decode b_Wo_pileUp 15 = .ok (.iconst 1, 1) := by decide +kernel
theorem d_Wo_pileUp_16 : decode b_Wo_pileUp 16 = .ok (.iadd, 1) := by decide +kernel
theorem d_Wo_pileUp_17 : decode b_Wo_pileUp 17 = .ok (.putfield 15, 3) := by decide +kernel
theorem d_Wo_pileUp_20 : decode b_Wo_pileUp 20 = .ok (.return_, 1) := by decide +kernel
theorem d_Wo_takeTop_0 : decode b_Wo_takeTop 0 = .ok (.aload_n 0, 1) := by decide +kernel
theorem d_Wo_takeTop_1 : decode b_Wo_takeTop 1 = .ok (.getfield 15, 3) := by decide +kernel
theorem d_Wo_takeTop_4 : decode b_Wo_takeTop 4 = .ok (.ifCond .ne 5, 3) := by decide +kernel
theorem d_Wo_takeTop_7 : decode b_Wo_takeTop 7 = .ok (.iconst (-1), 1) := by decide +kernel
theorem d_Wo_takeTop_8 : decode b_Wo_takeTop 8 = .ok (.ireturn, 1) := by decide +kernel
theorem d_Wo_takeTop_9 : decode b_Wo_takeTop 9 = .ok (.aload_n 0, 1) := by decide +kernel
theorem d_Wo_takeTop_10 : decode b_Wo_takeTop 10 = .ok (.dup, 1) := by decide +kernel
theorem d_Wo_takeTop_11 : decode b_Wo_takeTop 11 = .ok (.getfield 15, 3) := by decide +kernel
theorem d_Wo_takeTop_14 : decode b_Wo_takeTop 14 = .ok (.iconst 1, 1) := by decide +kernel
theorem d_Wo_takeTop_15 : decode b_Wo_takeTop 15 = .ok (.isub, 1) := by decide +kernel
theorem d_Wo_takeTop_16 : decode b_Wo_takeTop 16 = .ok (.putfield 15, 3) := by decide +kernel
theorem d_Wo_takeTop_19 : decode b_Wo_takeTop 19 = .ok (.aload_n 0, 1) := by decide +kernel
theorem d_Wo_takeTop_20 : decode b_Wo_takeTop 20 = .ok (.getfield 9, 3) := by decide +kernel
theorem d_Wo_takeTop_23 : decode b_Wo_takeTop 23 = .ok (.aload_n 0, 1) := by decide +kernel
theorem d_Wo_takeTop_24 : decode b_Wo_takeTop 24 = .ok (.getfield 15, 3) := by decide +kernel
theorem d_Wo_takeTop_27 : decode b_Wo_takeTop 27 = .ok (.iaload, 1) := by decide +kernel
theorem d_Wo_takeTop_28 : decode b_Wo_takeTop 28 = .ok (.ireturn, 1) := by decide +kernel
