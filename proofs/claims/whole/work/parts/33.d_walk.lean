theorem d_Wa_init_0 : decode b_Wa_init 0 = .ok (.aload_n 0, 1) := by decide +kernel
theorem d_Wa_init_1 : decode b_Wa_init 1 = .ok (.invokespecial 3, 3) := by decide +kernel
theorem d_Wa_init_4 : decode b_Wa_init 4 = .ok (.aload_n 0, 1) := by decide +kernel
theorem d_Wa_init_5 : decode b_Wa_init 5 = .ok (.sipush 240, 3) := by decide +kernel
theorem d_Wa_init_8 : decode b_Wa_init 8 = .ok (.newarray .int, 2) := by decide +kernel
theorem d_Wa_init_10 : decode b_Wa_init 10 = .ok (.putfield 9, 3) := by decide +kernel
theorem d_Wa_init_13 : decode b_Wa_init 13 = .ok (.aload_n 0, 1) := by decide +kernel
theorem d_Wa_init_14 : decode b_Wa_init 14 = .ok (.bipush 80, 2) := by decide +kernel
theorem d_Wa_init_16 : decode b_Wa_init 16 = .ok (.newarray .int, 2) := by decide +kernel
theorem d_Wa_init_18 : decode b_Wa_init 18 = .ok (.putfield 15, 3) := by decide +kernel
theorem d_Wa_init_21 : decode b_Wa_init 21 = .ok (.return_, 1) := by decide +kernel
theorem d_Wa_countFrom_0 : decode b_Wa_countFrom 0 = .ok (.aload_n 0, 1) := by decide +kernel
theorem d_Wa_countFrom_1 : decode b_Wa_countFrom 1 = .ok (.getfield 9, 3) := by decide +kernel
theorem d_Wa_countFrom_4 : decode b_Wa_countFrom 4 = .ok (.iconst 0, 1) := by decide +kernel
theorem d_Wa_countFrom_5 : decode b_Wa_countFrom 5 = .ok (.invokestatic 18, 3) := by decide +kernel
theorem d_Wa_countFrom_8 : decode b_Wa_countFrom 8 = .ok (.aload_n 0, 1) := by decide +kernel
theorem d_Wa_countFrom_9 : decode b_Wa_countFrom 9 = .ok (.iconst 0, 1) := by decide +kernel
theorem d_Wa_countFrom_10 : decode b_Wa_countFrom 10 = .ok (.putfield 24, 3) := by decide +kernel
theorem d_Wa_countFrom_13 : decode b_Wa_countFrom 13 = .ok (.aload_n 0, 1) := by decide +kernel
theorem d_Wa_countFrom_14 : decode b_Wa_countFrom 14 = .ok (.iload_n 2, 1) := by decide +kernel
theorem d_Wa_countFrom_15 : decode b_Wa_countFrom 15 = .ok (.invokevirtual 28, 3) := by decide +kernel
theorem d_Wa_countFrom_18 : decode b_Wa_countFrom 18 = .ok (.iconst 0, 1) := by decide +kernel
theorem d_Wa_countFrom_19 : decode b_Wa_countFrom 19 = .ok (.istore_n 3, 1) := by decide +kernel
theorem d_Wa_countFrom_20 : decode b_Wa_countFrom 20 = .ok (.iload_n 3, 1) := by decide +kernel
theorem d_Wa_countFrom_21 : decode b_Wa_countFrom 21 = .ok (.aload_n 0, 1) := by decide +kernel
theorem d_Wa_countFrom_22 : decode b_Wa_countFrom 22 = .ok (.getfield 24, 3) := by decide +kernel
theorem d_Wa_countFrom_25 : decode b_Wa_countFrom 25 = .ok (.if_icmp .ge 55, 3) := by decide +kernel
theorem d_Wa_countFrom_28 : decode b_Wa_countFrom 28 = .ok (.iload_n 3, 1) := by decide +kernel
theorem d_Wa_countFrom_29 : decode b_Wa_countFrom 29 = .ok (.bipush 80, 2) := by decide +kernel
theorem d_Wa_countFrom_31 : decode b_Wa_countFrom 31 = .ok (.if_icmp .ge 49, 3) := by decide +kernel
theorem d_Wa_countFrom_34 : decode b_Wa_countFrom 34 = .ok (.aload_n 0, 1) := by decide +kernel
theorem d_Wa_countFrom_35 : decode b_Wa_countFrom 35 = .ok (.getfield 15, 3) := by decide +kernel
theorem d_Wa_countFrom_38 : decode b_Wa_countFrom 38 = .ok (.iload_n 3, 1) := by decide +kernel
theorem d_Wa_countFrom_39 : decode b_Wa_countFrom 39 = .ok (.iaload, 1) := by decide +kernel
theorem d_Wa_countFrom_40 : decode b_Wa_countFrom 40 = .ok (.istore 4, 2) := by decide +kernel
theorem d_Wa_countFrom_42 : decode b_Wa_countFrom 42 = .ok (.iconst 0, 1) := by decide +kernel
theorem d_Wa_countFrom_43 : decode b_Wa_countFrom 43 = .ok (.istore 5, 2) := by decide +kernel
theorem d_Wa_countFrom_45 : decode b_Wa_countFrom 45 = .ok (.iload 5, 2) := by decide +kernel
theorem d_Wa_countFrom_47 : decode b_Wa_countFrom 47 = .ok (.aload_n 1, 1) := by decide +kernel
theorem d_Wa_countFrom_48 : decode b_Wa_countFrom 48 = .ok (.iload 4, 2) := by decide +kernel
theorem d_Wa_countFrom_50 : decode b_Wa_countFrom 50 = .ok (.invokevirtual 32, 3) := by decide +kernel
theorem d_Wa_countFrom_53 : decode b_Wa_countFrom 53 = .ok (.if_icmp .ge 21, 3) := by decide +kernel
theorem d_Wa_countFrom_56 : decode b_Wa_countFrom 56 = .ok (.aload_n 0, 1) := by decide +kernel
theorem d_Wa_countFrom_57 : decode b_Wa_countFrom 57 = .ok (.aload_n 1, 1) := by decide +kernel
theorem d_Wa_countFrom_58 : decode b_Wa_countFrom 58 = .ok (.iload 4, 2) := by decide +kernel
theorem d_Wa_countFrom_60 : decode b_Wa_countFrom 60 = .ok (.iload 5, 2) := by decide +kernel
theorem d_Wa_countFrom_62 : decode b_Wa_countFrom 62 = .ok (.invokevirtual 38, 3) := by decide +kernel
theorem d_Wa_countFrom_65 : decode b_Wa_countFrom 65 = .ok (.invokevirtual 28, 3) := by decide +kernel
theorem d_Wa_countFrom_68 : decode b_Wa_countFrom 68 = .ok (.iinc 5 1, 3) := by decide +kernel
theorem d_Wa_countFrom_71 : decode b_Wa_countFrom 71 = .ok (.goto (-26), 3) := by decide +kernel
theorem d_Wa_countFrom_74 : decode b_Wa_countFrom 74 = .ok (.iinc 3 1, 3) := by decide +kernel
theorem d_Wa_countFrom_77 : decode b_Wa_countFrom 77 = .ok (.goto (-57), 3) := by decide +kernel
theorem d_Wa_countFrom_80 : decode b_Wa_countFrom 80 = .ok (.aload_n 0, 1) := by decide +kernel
theorem d_Wa_countFrom_81 : decode b_Wa_countFrom 81 = .ok (.getfield 24, 3) := by decide +kernel
theorem d_Wa_countFrom_84 : decode b_Wa_countFrom 84 = .ok (.ireturn, 1) := by decide +kernel
theorem d_Wa_find_0 : decode b_Wa_find 0 = .ok (.iload_n 1, 1) := by decide +kernel
theorem d_Wa_find_1 : decode b_Wa_find 1 = .ok (.iconst (-1), 1) := by decide +kernel
theorem d_Wa_find_2 : decode b_Wa_find 2 = .ok (.if_icmp .eq 39, 3) := by decide +kernel
theorem d_Wa_find_5 : decode b_Wa_find 5 = .ok (.aload_n 0, 1) := by decide +kernel
theorem d_Wa_find_6 : decode b_Wa_find 6 = .ok (.getfield 9, 3) := by decide +kernel
theorem d_Wa_find_9 : decode b_Wa_find 9 = .ok (.iload_n 1, 1) := by decide +kernel
theorem d_Wa_find_10 : decode b_Wa_find 10 = .ok (.iaload, 1) := by decide +kernel
theorem d_Wa_find_11 : decode b_Wa_find 11 = .ok (.ifCond .ne 30, 3) := by decide +kernel
theorem d_Wa_find_14 : decode b_Wa_find 14 = .ok (.aload_n 0, 1) := by decide +kernel
theorem d_Wa_find_15 : decode b_Wa_find 15 = .ok (.getfield 9, 3) := by decide +kernel
theorem d_Wa_find_18 : decode b_Wa_find 18 = .ok (.iload_n 1, 1) := by decide +kernel
theorem d_Wa_find_19 : decode b_Wa_find 19 = .ok (.iconst 1, 1) := by decide +kernel
theorem d_Wa_find_20 : decode b_Wa_find 20 = .ok (.iastore, 1) := by decide +kernel
theorem d_Wa_find_21 : decode b_Wa_find 21 = .ok (.aload_n 0, 1) := by decide +kernel
theorem d_Wa_find_22 : decode b_Wa_find 22 = .ok (.getfield 15, 3) := by decide +kernel
theorem d_Wa_find_25 : decode b_Wa_find 25 = .ok (.aload_n 0, 1) := by decide +kernel
theorem d_Wa_find_26 : decode b_Wa_find 26 = .ok (.getfield 24, 3) := by decide +kernel
theorem d_Wa_find_29 : decode b_Wa_find 29 = .ok (.iload_n 1, 1) := by decide +kernel
theorem d_Wa_find_30 : decode b_Wa_find 30 = .ok (.iastore, 1) := by decide +kernel
theorem d_Wa_find_31 : decode b_Wa_find 31 = .ok (.aload_n 0, 1) := by decide +kernel
theorem d_Wa_find_32 : decode b_Wa_find 32 = .ok (.dup, 1) := by decide +kernel
theorem d_Wa_find_33 : decode b_Wa_find 33 = .ok (.getfield 24, 3) := by decide +kernel
theorem d_Wa_find_36 : decode b_Wa_find 36 = .ok (.iconst 1, 1) := by decide +kernel
theorem d_Wa_find_37 : decode b_Wa_find 37 = .ok (.iadd, 1) := by decide +kernel
theorem d_Wa_find_38 : decode b_Wa_find 38 = .ok (.putfield 24, 3) := by decide +kernel
theorem d_Wa_find_41 : decode b_Wa_find 41 = .ok (.return_, 1) := by decide +kernel
