theorem d_Cr_init_0 : decode b_Cr_init 0 = .ok (.aload_n 0, 1) := by decide +kernel
theorem d_Cr_init_1 : decode b_Cr_init 1 = .ok (.invokespecial 3, 3) := by decide +kernel
theorem d_Cr_init_4 : decode b_Cr_init 4 = .ok (.aload_n 0, 1) := by decide +kernel
theorem d_Cr_init_5 : decode b_Cr_init 5 = .ok (.iconst 4, 1) := by decide +kernel
theorem d_Cr_init_6 : decode b_Cr_init 6 = .ok (.anewarray 9, 3) := by decide +kernel
theorem d_Cr_init_9 : decode b_Cr_init 9 = .ok (.putfield 11, 3) := by decide +kernel
theorem d_Cr_init_12 : decode b_Cr_init 12 = .ok (.aload_n 0, 1) := by decide +kernel
theorem d_Cr_init_13 : decode b_Cr_init 13 = .ok (.sipush 240, 3) := by decide +kernel
theorem d_Cr_init_16 : decode b_Cr_init 16 = .ok (.newarray .int, 2) := by decide +kernel
theorem d_Cr_init_18 : decode b_Cr_init 18 = .ok (.putfield 17, 3) := by decide +kernel
theorem d_Cr_init_21 : decode b_Cr_init 21 = .ok (.aload_n 0, 1) := by decide +kernel
theorem d_Cr_init_22 : decode b_Cr_init 22 = .ok (.iconst 1, 1) := by decide +kernel
theorem d_Cr_init_23 : decode b_Cr_init 23 = .ok (.putfield 21, 3) := by decide +kernel
theorem d_Cr_init_26 : decode b_Cr_init 26 = .ok (.iconst 0, 1) := by decide +kernel
theorem d_Cr_init_27 : decode b_Cr_init 27 = .ok (.istore_n 1, 1) := by decide +kernel
theorem d_Cr_init_28 : decode b_Cr_init 28 = .ok (.iload_n 1, 1) := by decide +kernel
theorem d_Cr_init_29 : decode b_Cr_init 29 = .ok (.iconst 4, 1) := by decide +kernel
theorem d_Cr_init_30 : decode b_Cr_init 30 = .ok (.if_icmp .ge 22, 3) := by decide +kernel
theorem d_Cr_init_33 : decode b_Cr_init 33 = .ok (.aload_n 0, 1) := by decide +kernel
theorem d_Cr_init_34 : decode b_Cr_init 34 = .ok (.getfield 11, 3) := by decide +kernel
theorem d_Cr_init_37 : decode b_Cr_init 37 = .ok (.iload_n 1, 1) := by decide +kernel
theorem d_Cr_init_38 : decode b_Cr_init 38 = .ok (.new 9, 3) := by decide +kernel
theorem d_Cr_init_41 : decode b_Cr_init 41 = .ok (.dup, 1) := by decide +kernel
theorem d_Cr_init_42 : decode b_Cr_init 42 = .ok (.invokespecial 25, 3) := by decide +kernel
theorem d_Cr_init_45 : decode b_Cr_init 45 = .ok (.aastore, 1) := by decide +kernel
theorem d_Cr_init_46 : decode b_Cr_init 46 = .ok (.iinc 1 1, 3) := by decide +kernel
theorem d_Cr_init_49 : decode b_Cr_init 49 = .ok (.goto (-21), 3) := by decide +kernel
theorem d_Cr_init_52 : decode b_Cr_init 52 = .ok (.return_, 1) := by decide +kernel
theorem d_Cr_begin_0 : decode b_Cr_begin 0 = .ok (.aload_n 0, 1) := by decide +kernel
theorem d_Cr_begin_1 : decode b_Cr_begin 1 = .ok (.iload_n 1, 1) := by decide +kernel
theorem d_Cr_begin_2 : decode b_Cr_begin 2 = .ok (.putfield 21, 3) := by decide +kernel
theorem d_Cr_begin_5 : decode b_Cr_begin 5 = .ok (.aload_n 0, 1) := by decide +kernel
theorem d_Cr_begin_6 : decode b_Cr_begin 6 = .ok (.iload_n 2, 1) := by decide +kernel
theorem d_Cr_begin_7 : decode b_Cr_begin 7 = .ok (.putfield 26, 3) := by decide +kernel
theorem d_Cr_begin_10 : decode b_Cr_begin 10 = .ok (.aload_n 0, 1) := by decide +kernel
theorem d_Cr_begin_11 : decode b_Cr_begin 11 = .ok (.iconst 0, 1) := by decide +kernel
theorem d_Cr_begin_12 : decode b_Cr_begin 12 = .ok (.putfield 29, 3) := by decide +kernel
theorem d_Cr_begin_15 : decode b_Cr_begin 15 = .ok (.aload_n 0, 1) := by decide +kernel
theorem d_Cr_begin_16 : decode b_Cr_begin 16 = .ok (.getfield 17, 3) := by decide +kernel
theorem d_Cr_begin_19 : decode b_Cr_begin 19 = .ok (.iconst (-1), 1) := by decide +kernel
theorem d_Cr_begin_20 : decode b_Cr_begin 20 = .ok (.invokestatic 32, 3) := by decide +kernel
theorem d_Cr_begin_23 : decode b_Cr_begin 23 = .ok (.return_, 1) := by decide +kernel
theorem d_Cr_bringRoots_0 : decode b_Cr_bringRoots 0 = .ok (.iconst 0, 1) := by decide +kernel
theorem d_Cr_bringRoots_1 : decode b_Cr_bringRoots 1 = .ok (.istore 4, 2) := by decide +kernel
theorem d_Cr_bringRoots_3 : decode b_Cr_bringRoots 3 = .ok (.iload 4, 2) := by decide +kernel
theorem d_Cr_bringRoots_5 : decode b_Cr_bringRoots 5 = .ok (.aload_n 3, 1) := by decide +kernel
theorem d_Cr_bringRoots_6 : decode b_Cr_bringRoots 6 = .ok (.arraylength, 1) := by decide +kernel
theorem d_Cr_bringRoots_7 : decode b_Cr_bringRoots 7 = .ok (.if_icmp .ge 32, 3) := by decide +kernel
theorem d_Cr_bringRoots_10 : decode b_Cr_bringRoots 10 = .ok (.aload_n 3, 1) := by decide +kernel
theorem d_Cr_bringRoots_11 : decode b_Cr_bringRoots 11 = .ok (.iload 4, 2) := by decide +kernel
theorem d_Cr_bringRoots_13 : decode b_Cr_bringRoots 13 = .ok (.aload_n 0, 1) := by decide +kernel
theorem d_Cr_bringRoots_14 : decode b_Cr_bringRoots 14 = .ok (.aload_n 0, 1) := by decide +kernel
theorem d_Cr_bringRoots_15 : decode b_Cr_bringRoots 15 = .ok (.getfield 11, 3) := by decide +kernel
theorem d_Cr_bringRoots_18 : decode b_Cr_bringRoots 18 = .ok (.aload_n 0, 1) := by decide +kernel
theorem d_Cr_bringRoots_19 : decode b_Cr_bringRoots 19 = .ok (.invokevirtual 38, 3) := by decide +kernel
theorem d_Cr_bringRoots_22 : decode b_Cr_bringRoots 22 = .ok (.aaload, 1) := by decide +kernel
theorem d_Cr_bringRoots_23 : decode b_Cr_bringRoots 23 = .ok (.aload_n 1, 1) := by decide +kernel
theorem d_Cr_bringRoots_24 : decode b_Cr_bringRoots 24 = .ok (.aload_n 2, 1) := by decide +kernel
theorem d_Cr_bringRoots_25 : decode b_Cr_bringRoots 25 = .ok (.aload_n 3, 1) := by decide +kernel
theorem d_Cr_bringRoots_26 : decode b_Cr_bringRoots 26 = .ok (.iload 4, 2) := by decide +kernel
theorem d_Cr_bringRoots_28 : decode b_Cr_bringRoots 28 = .ok (.iaload, 1) := by decide +kernel
theorem d_Cr_bringRoots_29 : decode b_Cr_bringRoots 29 = .ok (.invokevirtual 42, 3) := by decide +kernel
theorem d_Cr_bringRoots_32 : decode b_Cr_bringRoots 32 = .ok (.iastore, 1) := by decide +kernel
theorem d_Cr_bringRoots_33 : decode b_Cr_bringRoots 33 = .ok (.iinc 4 1, 3) := by decide +kernel
theorem d_Cr_bringRoots_36 : decode b_Cr_bringRoots 36 = .ok (.goto (-33), 3) := by decide +kernel
theorem d_Cr_bringRoots_39 : decode b_Cr_bringRoots 39 = .ok (.return_, 1) := by decide +kernel
theorem d_Cr_whoseTurn_0 : decode b_Cr_whoseTurn 0 = .ok (.aload_n 0, 1) := by decide +kernel
theorem d_Cr_whoseTurn_1 : decode b_Cr_whoseTurn 1 = .ok (.getfield 26, 3) := by decide +kernel
theorem d_Cr_whoseTurn_4 : decode b_Cr_whoseTurn 4 = .ok (.iconst 2, 1) := by decide +kernel
theorem d_Cr_whoseTurn_5 : decode b_Cr_whoseTurn 5 = .ok (.aload_n 0, 1) := by decide +kernel
theorem d_Cr_whoseTurn_6 : decode b_Cr_whoseTurn 6 = .ok (.getfield 29, 3) := by decide +kernel
theorem d_Cr_whoseTurn_9 : decode b_Cr_whoseTurn 9 = .ok (.imul, 1) := by decide +kernel
theorem d_Cr_whoseTurn_10 : decode b_Cr_whoseTurn 10 = .ok (.iushr, 1) := by decide +kernel
theorem d_Cr_whoseTurn_11 : decode b_Cr_whoseTurn 11 = .ok (.iconst 3, 1) := by decide +kernel
theorem d_Cr_whoseTurn_12 : decode b_Cr_whoseTurn 12 = .ok (.iand, 1) := by decide +kernel
theorem d_Cr_whoseTurn_13 : decode b_Cr_whoseTurn 13 = .ok (.istore_n 1, 1) := by decide +kernel
theorem d_Cr_whoseTurn_14 : decode b_Cr_whoseTurn 14 = .ok (.aload_n 0, 1) := by decide +kernel
theorem d_Cr_whoseTurn_15 : decode b_Cr_whoseTurn 15 = .ok (.getfield 29, 3) := by decide +kernel
theorem d_Cr_whoseTurn_18 : decode b_Cr_whoseTurn 18 = .ok (.iload_n 1, 1) := by decide +kernel
theorem d_Cr_whoseTurn_19 : decode b_Cr_whoseTurn 19 = .ok (.iadd, 1) := by decide +kernel
theorem d_Cr_whoseTurn_20 : decode b_Cr_whoseTurn 20 = .ok (.aload_n 0, 1) := by decide +kernel
theorem d_Cr_whoseTurn_21 : decode b_Cr_whoseTurn 21 = .ok (.getfield 21, 3) := by decide +kernel
theorem d_Cr_whoseTurn_24 : decode b_Cr_whoseTurn 24 = .ok (.irem, 1) := by decide +kernel
theorem d_Cr_whoseTurn_25 : decode b_Cr_whoseTurn 25 = .ok (.istore_n 2, 1) := by decide +kernel
theorem d_Cr_whoseTurn_26 : decode b_Cr_whoseTurn 26 = .ok (.aload_n 0, 1) := by decide +kernel
theorem d_Cr_whoseTurn_27 : decode b_Cr_whoseTurn 27 = .ok (.dup, 1) := by decide +kernel
theorem d_Cr_whoseTurn_28 : decode b_Cr_whoseTurn 28 = .ok (.getfield 29, 3) := by decide +kernel
theorem d_Cr_whoseTurn_31 : decode b_Cr_whoseTurn 31 = .ok (.iconst 1, 1) := by decide +kernel
theorem d_Cr_whoseTurn_32 : decode b_Cr_whoseTurn 32 = .ok (.iadd, 1) := by decide +kernel
theorem d_Cr_whoseTurn_33 : decode b_Cr_whoseTurn 33 = .ok (.putfield 29, 3) := by decide +kernel
theorem d_Cr_whoseTurn_36 : decode b_Cr_whoseTurn 36 = .ok (.iload_n 2, 1) := by decide +kernel
theorem d_Cr_whoseTurn_37 : decode b_Cr_whoseTurn 37 = .ok (.ireturn, 1) := by decide +kernel
theorem d_Cr_bring_0 : decode b_Cr_bring 0 = .ok (.iload 4, 2) := by decide +kernel
theorem d_Cr_bring_2 : decode b_Cr_bring 2 = .ok (.iconst (-1), 1) := by decide +kernel
theorem d_Cr_bring_3 : decode b_Cr_bring 3 = .ok (.if_icmp .ne 5, 3) := by decide +kernel
theorem d_Cr_bring_6 : decode b_Cr_bring 6 = .ok (.iconst (-1), 1) := by decide +kernel
theorem d_Cr_bring_7 : decode b_Cr_bring 7 = .ok (.ireturn, 1) := by decide +kernel
theorem d_Cr_bring_8 : decode b_Cr_bring 8 = .ok (.aload_n 0, 1) := by decide +kernel
theorem d_Cr_bring_9 : decode b_Cr_bring 9 = .ok (.getfield 17, 3) := by decide +kernel
theorem d_Cr_bring_12 : decode b_Cr_bring 12 = .ok (.iload 4, 2) := by decide +kernel
theorem d_Cr_bring_14 : decode b_Cr_bring 14 = .ok (.iaload, 1) := by decide +kernel
theorem d_Cr_bring_15 : decode b_Cr_bring 15 = .ok (.iconst (-1), 1) := by decide +kernel
theorem d_Cr_bring_16 : decode b_Cr_bring 16 = .ok (.if_icmp .ne 28, 3) := by decide +kernel
theorem d_Cr_bring_19 : decode b_Cr_bring 19 = .ok (.aload_n 0, 1) := by decide +kernel
theorem d_Cr_bring_20 : decode b_Cr_bring 20 = .ok (.getfield 17, 3) := by decide +kernel
theorem d_Cr_bring_23 : decode b_Cr_bring 23 = .ok (.iload 4, 2) := by decide +kernel
theorem d_Cr_bring_25 : decode b_Cr_bring 25 = .ok (.aload_n 3, 1) := by decide +kernel
theorem d_Cr_bring_26 : decode b_Cr_bring 26 = .ok (.aload_n 2, 1) := by decide +kernel
theorem d_Cr_bring_27 : decode b_Cr_bring 27 = .ok (.iload 4, 2) := by decide +kernel
theorem d_Cr_bring_29 : decode b_Cr_bring 29 = .ok (.invokevirtual 73, 3) := by decide +kernel
theorem d_Cr_bring_32 : decode b_Cr_bring 32 = .ok (.iastore, 1) := by decide +kernel
theorem d_Cr_bring_33 : decode b_Cr_bring 33 = .ok (.aload_n 1, 1) := by decide +kernel
theorem d_Cr_bring_34 : decode b_Cr_bring 34 = .ok (.aload_n 0, 1) := by decide +kernel
theorem d_Cr_bring_35 : decode b_Cr_bring 35 = .ok (.getfield 17, 3) := by decide +kernel
theorem d_Cr_bring_38 : decode b_Cr_bring 38 = .ok (.iload 4, 2) := by decide +kernel
theorem d_Cr_bring_40 : decode b_Cr_bring 40 = .ok (.iaload, 1) := by decide +kernel
theorem d_Cr_bring_41 : decode b_Cr_bring 41 = .ok (.invokevirtual 77, 3) := by decide +kernel
theorem d_Cr_bring_44 : decode b_Cr_bring 44 = .ok (.aload_n 0, 1) := by decide +kernel
theorem d_Cr_bring_45 : decode b_Cr_bring 45 = .ok (.getfield 17, 3) := by decide +kernel
theorem d_Cr_bring_48 : decode b_Cr_bring 48 = .ok (.iload 4, 2) := by decide +kernel
theorem d_Cr_bring_50 : decode b_Cr_bring 50 = .ok (.iaload, 1) := by decide +kernel
theorem d_Cr_bring_51 : decode b_Cr_bring 51 = .ok (.ireturn, 1) := by decide +kernel
theorem d_Cr_bringAllReached_0 : decode b_Cr_bringAllReached 0 = .ok (.iconst 0, 1) := by decide +kernel
theorem d_Cr_bringAllReached_1 : decode b_Cr_bringAllReached 1 = .ok (.istore_n 3, 1) := by decide +kernel
theorem d_Cr_bringAllReached_2 : decode b_Cr_bringAllReached 2 = .ok (.iload_n 3, 1) := by decide +kernel
theorem d_Cr_bringAllReached_3 : decode b_Cr_bringAllReached 3 = .ok (.aload_n 2, 1) := by decide +kernel
theorem d_Cr_bringAllReached_4 : decode b_Cr_bringAllReached 4 = .ok (.invokevirtual 46, 3) := by decide +kernel
theorem d_Cr_bringAllReached_7 : decode b_Cr_bringAllReached 7 = .ok (.if_icmp .ge 50, 3) := by decide +kernel
theorem d_Cr_bringAllReached_10 : decode b_Cr_bringAllReached 10 = .ok (.iload_n 3, 1) := by decide +kernel
theorem d_Cr_bringAllReached_11 : decode b_Cr_bringAllReached 11 = .ok (.bipush 80, 2) := by decide +kernel
theorem d_Cr_bringAllReached_13 : decode b_Cr_bringAllReached 13 = .ok (.if_icmp .ge 44, 3) := by decide +kernel
theorem d_Cr_bringAllReached_16 : decode b_Cr_bringAllReached 16 = .ok (.aload_n 0, 1) := by decide +kernel
theorem d_Cr_bringAllReached_17 : decode b_Cr_bringAllReached 17 = .ok (.invokevirtual 38, 3) := by decide +kernel
theorem d_Cr_bringAllReached_20 : decode b_Cr_bringAllReached 20 = .ok (.istore 4, 2) := by decide +kernel
theorem d_Cr_bringAllReached_22 : decode b_Cr_bringAllReached 22 = .ok (.aload_n 0, 1) := by decide +kernel
theorem d_Cr_bringAllReached_23 : decode b_Cr_bringAllReached 23 = .ok (.iload 4, 2) := by decide +kernel
theorem d_Cr_bringAllReached_25 : decode b_Cr_bringAllReached 25 = .ok (.invokevirtual 51, 3) := by decide +kernel
theorem d_Cr_bringAllReached_28 : decode b_Cr_bringAllReached 28 = .ok (.istore 5, 2) := by decide +kernel
theorem d_Cr_bringAllReached_30 : decode b_Cr_bringAllReached 30 = .ok (.iload 5, 2) := by decide +kernel
theorem d_Cr_bringAllReached_32 : decode b_Cr_bringAllReached 32 = .ok (.iconst (-1), 1) := by decide +kernel
theorem d_Cr_bringAllReached_33 : decode b_Cr_bringAllReached 33 = .ok (.if_icmp .eq 18, 3) := by decide +kernel
theorem d_Cr_bringAllReached_36 : decode b_Cr_bringAllReached 36 = .ok (.aload_n 0, 1) := by decide +kernel
theorem d_Cr_bringAllReached_37 : decode b_Cr_bringAllReached 37 = .ok (.aload_n 0, 1) := by decide +kernel
theorem d_Cr_bringAllReached_38 : decode b_Cr_bringAllReached 38 = .ok (.getfield 11, 3) := by decide +kernel
theorem d_Cr_bringAllReached_41 : decode b_Cr_bringAllReached 41 = .ok (.iload 4, 2) := by decide +kernel
theorem d_Cr_bringAllReached_43 : decode b_Cr_bringAllReached 43 = .ok (.aaload, 1) := by decide +kernel
theorem d_Cr_bringAllReached_44 : decode b_Cr_bringAllReached 44 = .ok (.aload_n 1, 1) := by decide +kernel
theorem d_Cr_bringAllReached_45 : decode b_Cr_bringAllReached 45 = .ok (.aload_n 2, 1) := by decide +kernel
theorem d_Cr_bringAllReached_46 : decode b_Cr_bringAllReached 46 = .ok (.iload 5, 2) := by decide +kernel
theorem d_Cr_bringAllReached_48 : decode b_Cr_bringAllReached 48 = .ok (.invokevirtual 55, 3) := by decide +kernel
theorem d_Cr_bringAllReached_51 : decode b_Cr_bringAllReached 51 = .ok (.iinc 3 1, 3) := by decide +kernel
theorem d_Cr_bringAllReached_54 : decode b_Cr_bringAllReached 54 = .ok (.goto (-52), 3) := by decide +kernel
theorem d_Cr_bringAllReached_57 : decode b_Cr_bringAllReached 57 = .ok (.return_, 1) := by decide +kernel
theorem d_Cr_takeFor_0 : decode b_Cr_takeFor 0 = .ok (.iconst (-1), 1) := by decide +kernel
theorem d_Cr_takeFor_1 : decode b_Cr_takeFor 1 = .ok (.istore_n 2, 1) := by decide +kernel
theorem d_Cr_takeFor_2 : decode b_Cr_takeFor 2 = .ok (.iconst 0, 1) := by decide +kernel
theorem d_Cr_takeFor_3 : decode b_Cr_takeFor 3 = .ok (.istore_n 3, 1) := by decide +kernel
theorem d_Cr_takeFor_4 : decode b_Cr_takeFor 4 = .ok (.iload_n 3, 1) := by decide +kernel
theorem d_Cr_takeFor_5 : decode b_Cr_takeFor 5 = .ok (.aload_n 0, 1) := by decide +kernel
theorem d_Cr_takeFor_6 : decode b_Cr_takeFor 6 = .ok (.getfield 21, 3) := by decide +kernel
theorem d_Cr_takeFor_9 : decode b_Cr_takeFor 9 = .ok (.if_icmp .ge 31, 3) := by decide +kernel
theorem d_Cr_takeFor_12 : decode b_Cr_takeFor 12 = .ok (.iload_n 2, 1) := by decide +kernel
theorem d_Cr_takeFor_13 : decode b_Cr_takeFor 13 = .ok (.iconst (-1), 1) := by decide +kernel
theorem d_Cr_takeFor_14 : decode b_Cr_takeFor 14 = .ok (.if_icmp .ne 26, 3) := by decide +kernel
theorem d_Cr_takeFor_17 : decode b_Cr_takeFor 17 = .ok (.aload_n 0, 1) := by decide +kernel
theorem d_Cr_takeFor_18 : decode b_Cr_takeFor 18 = .ok (.getfield 11, 3) := by decide +kernel
theorem d_Cr_takeFor_21 : decode b_Cr_takeFor 21 = .ok (.iload_n 1, 1) := by decide +kernel
theorem d_Cr_takeFor_22 : decode b_Cr_takeFor 22 = .ok (.iload_n 3, 1) := by decide +kernel
theorem d_Cr_takeFor_23 : decode b_Cr_takeFor 23 = .ok (.iadd, 1) := by decide +kernel
theorem d_Cr_takeFor_24 : decode b_Cr_takeFor 24 = .ok (.aload_n 0, 1) := by decide +kernel
theorem d_Cr_takeFor_25 : decode b_Cr_takeFor 25 = .ok (.getfield 21, 3) := by decide +kernel
theorem d_Cr_takeFor_28 : decode b_Cr_takeFor 28 = .ok (.irem, 1) := by decide +kernel
theorem d_Cr_takeFor_29 : decode b_Cr_takeFor 29 = .ok (.aaload, 1) := by decide +kernel
theorem d_Cr_takeFor_30 : decode b_Cr_takeFor 30 = .ok (.invokevirtual 59, 3) := by decide +kernel
theorem d_Cr_takeFor_33 : decode b_Cr_takeFor 33 = .ok (.istore_n 2, 1) := by decide +kernel
theorem d_Cr_takeFor_34 : decode b_Cr_takeFor 34 = .ok (.iinc 3 1, 3) := by decide +kernel
theorem d_Cr_takeFor_37 : decode b_Cr_takeFor 37 = .ok (.goto (-33), 3) := by decide +kernel
theorem d_Cr_takeFor_40 : decode b_Cr_takeFor 40 = .ok (.iload_n 2, 1) := by decide +kernel
theorem d_Cr_takeFor_41 : decode b_Cr_takeFor 41 = .ok (.ireturn, 1) := by decide +kernel
theorem d_Cr_bringFields_0 : decode b_Cr_bringFields 0 = .ok (.iconst 0, 1) := by decide +kernel
theorem d_Cr_bringFields_1 : decode b_Cr_bringFields 1 = .ok (.istore 5, 2) := by decide +kernel
theorem d_Cr_bringFields_3 : decode b_Cr_bringFields 3 = .ok (.iload 5, 2) := by decide +kernel
theorem d_Cr_bringFields_5 : decode b_Cr_bringFields 5 = .ok (.aload_n 3, 1) := by decide +kernel
theorem d_Cr_bringFields_6 : decode b_Cr_bringFields 6 = .ok (.iload 4, 2) := by decide +kernel
theorem d_Cr_bringFields_8 : decode b_Cr_bringFields 8 = .ok (.invokevirtual 62, 3) := by decide +kernel
theorem d_Cr_bringFields_11 : decode b_Cr_bringFields 11 = .ok (.if_icmp .ge 32, 3) := by decide +kernel
theorem d_Cr_bringFields_14 : decode b_Cr_bringFields 14 = .ok (.aload_n 3, 1) := by decide +kernel
theorem d_Cr_bringFields_15 : decode b_Cr_bringFields 15 = .ok (.iload 4, 2) := by decide +kernel
theorem d_Cr_bringFields_17 : decode b_Cr_bringFields 17 = .ok (.iload 5, 2) := by decide +kernel
theorem d_Cr_bringFields_19 : decode b_Cr_bringFields 19 = .ok (.aload_n 0, 1) := by decide +kernel
theorem d_Cr_bringFields_20 : decode b_Cr_bringFields 20 = .ok (.aload_n 1, 1) := by decide +kernel
theorem d_Cr_bringFields_21 : decode b_Cr_bringFields 21 = .ok (.aload_n 2, 1) := by decide +kernel
theorem d_Cr_bringFields_22 : decode b_Cr_bringFields 22 = .ok (.aload_n 3, 1) := by decide +kernel
theorem d_Cr_bringFields_23 : decode b_Cr_bringFields 23 = .ok (.aload_n 3, 1) := by decide +kernel
theorem d_Cr_bringFields_24 : decode b_Cr_bringFields 24 = .ok (.iload 4, 2) := by decide +kernel
theorem d_Cr_bringFields_26 : decode b_Cr_bringFields 26 = .ok (.iload 5, 2) := by decide +kernel
theorem d_Cr_bringFields_28 : decode b_Cr_bringFields 28 = .ok (.invokevirtual 65, 3) := by decide +kernel
theorem d_Cr_bringFields_31 : decode b_Cr_bringFields 31 = .ok (.invokevirtual 42, 3) := by decide +kernel
theorem d_Cr_bringFields_34 : decode b_Cr_bringFields 34 = .ok (.invokevirtual 69, 3) := by decide +kernel
theorem d_Cr_bringFields_37 : decode b_Cr_bringFields 37 = .ok (.iinc 5 1, 3) := by decide +kernel
theorem d_Cr_bringFields_40 : decode b_Cr_bringFields 40 = .ok (.goto (-37), 3) := by decide +kernel
theorem d_Cr_bringFields_43 : decode b_Cr_bringFields 43 = .ok (.return_, 1) := by decide +kernel
theorem d_Cr_followWeak_0 : decode b_Cr_followWeak 0 = .ok (.iconst 0, 1) := by decide +kernel
theorem d_Cr_followWeak_1 : decode b_Cr_followWeak 1 = .ok (.istore_n 2, 1) := by decide +kernel
theorem d_Cr_followWeak_2 : decode b_Cr_followWeak 2 = .ok (.iload_n 2, 1) := by decide +kernel
theorem d_Cr_followWeak_3 : decode b_Cr_followWeak 3 = .ok (.aload_n 1, 1) := by decide +kernel
theorem d_Cr_followWeak_4 : decode b_Cr_followWeak 4 = .ok (.arraylength, 1) := by decide +kernel
theorem d_Cr_followWeak_5 : decode b_Cr_followWeak 5 = .ok (.if_icmp .ge 31, 3) := by decide +kernel
theorem d_Cr_followWeak_8 : decode b_Cr_followWeak 8 = .ok (.aload_n 1, 1) := by decide +kernel
theorem d_Cr_followWeak_9 : decode b_Cr_followWeak 9 = .ok (.iload_n 2, 1) := by decide +kernel
theorem d_Cr_followWeak_10 : decode b_Cr_followWeak 10 = .ok (.aload_n 1, 1) := by decide +kernel
theorem d_Cr_followWeak_11 : decode b_Cr_followWeak 11 = .ok (.iload_n 2, 1) := by decide +kernel
theorem d_Cr_followWeak_12 : decode b_Cr_followWeak 12 = .ok (.iaload, 1) := by decide +kernel
theorem d_Cr_followWeak_13 : decode b_Cr_followWeak 13 = .ok (.iconst (-1), 1) := by decide +kernel
theorem d_Cr_followWeak_14 : decode b_Cr_followWeak 14 = .ok (.if_icmp .ne 7, 3) := by decide +kernel
theorem d_Cr_followWeak_17 : decode b_Cr_followWeak 17 = .ok (.iconst (-1), 1) := by decide +kernel
theorem d_Cr_followWeak_18 : decode b_Cr_followWeak 18 = .ok (.goto 11, 3) := by decide +kernel
theorem d_Cr_followWeak_21 : decode b_Cr_followWeak 21 = .ok (.aload_n 0, 1) := by decide +kernel
theorem d_Cr_followWeak_22 : decode b_Cr_followWeak 22 = .ok (.getfield 17, 3) := by decide +kernel
theorem d_Cr_followWeak_25 : decode b_Cr_followWeak 25 = .ok (.aload_n 1, 1) := by decide +kernel
theorem d_Cr_followWeak_26 : decode b_Cr_followWeak 26 = .ok (.iload_n 2, 1) := by decide +kernel
theorem d_Cr_followWeak_27 : decode b_Cr_followWeak 27 = .ok (.iaload, 1) := by decide +kernel
theorem d_Cr_followWeak_28 : decode b_Cr_followWeak 28 = .ok (.iaload, 1) := by decide +kernel
theorem d_Cr_followWeak_29 : decode b_Cr_followWeak 29 = .ok (.iastore, 1) := by decide +kernel
theorem d_Cr_followWeak_30 : decode b_Cr_followWeak 30 = .ok (.iinc 2 1, 3) := by decide +kernel
theorem d_Cr_followWeak_33 : decode b_Cr_followWeak 33 = .ok (.goto (-31), 3) := by decide +kernel
theorem d_Cr_followWeak_36 : decode b_Cr_followWeak 36 = .ok (.return_, 1) := by decide +kernel
