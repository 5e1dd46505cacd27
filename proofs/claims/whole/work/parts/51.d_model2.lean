theorem d_Mo_revive_34 : decode b_Mo_revive 34 = .ok (.iload_n 2, 1) := by decide +kernel
theorem d_Mo_revive_35 : decode b_Mo_revive 35 = .ok (.aload_n 0, 1) := by decide +kernel
theorem d_Mo_revive_36 : decode b_Mo_revive 36 = .ok (.getfield 32, 3) := by decide +kernel
theorem d_Mo_revive_39 : decode b_Mo_revive 39 = .ok (.iload_n 1, 1) := by decide +kernel
theorem d_Mo_revive_40 : decode b_Mo_revive 40 = .ok (.iaload, 1) := by decide +kernel
theorem d_Mo_revive_41 : decode b_Mo_revive 41 = .ok (.iastore, 1) := by decide +kernel
theorem d_Mo_revive_42 : decode b_Mo_revive 42 = .ok (.return_, 1) := by decide +kernel
theorem d_Mo_watched_0 : decode b_Mo_watched 0 = .ok (.aload_n 0, 1) := by decide +kernel
theorem d_Mo_watched_1 : decode b_Mo_watched 1 = .ok (.iload_n 1, 1) := by decide +kernel
theorem d_Mo_watched_2 : decode b_Mo_watched 2 = .ok (.invokestatic 61, 3) := by decide +kernel
theorem d_Mo_watched_5 : decode b_Mo_watched 5 = .ok (.ifCond .eq 7, 3) := by decide +kernel
theorem d_Mo_watched_8 : decode b_Mo_watched 8 = .ok (.iconst 0, 1) := by decide +kernel
theorem d_Mo_watched_9 : decode b_Mo_watched 9 = .ok (.goto 4, 3) := by decide +kernel
theorem d_Mo_watched_12 : decode b_Mo_watched 12 = .ok (.iconst 1, 1) := by decide +kernel
theorem d_Mo_watched_13 : decode b_Mo_watched 13 = .ok (.putfield 35, 3) := by decide +kernel
theorem d_Mo_watched_16 : decode b_Mo_watched 16 = .ok (.aload_n 0, 1) := by decide +kernel
theorem d_Mo_watched_17 : decode b_Mo_watched 17 = .ok (.getfield 35, 3) := by decide +kernel
theorem d_Mo_watched_20 : decode b_Mo_watched 20 = .ok (.ifCond .ne 12, 3) := by decide +kernel
theorem d_Mo_watched_23 : decode b_Mo_watched 23 = .ok (.aload_n 0, 1) := by decide +kernel
theorem d_Mo_watched_24 : decode b_Mo_watched 24 = .ok (.getfield 32, 3) := by decide +kernel
theorem d_Mo_watched_27 : decode b_Mo_watched 27 = .ok (.iload_n 1, 1) := by decide +kernel
theorem d_Mo_watched_28 : decode b_Mo_watched 28 = .ok (.iaload, 1) := by decide +kernel
theorem d_Mo_watched_29 : decode b_Mo_watched 29 = .ok (.goto 4, 3) := by decide +kernel
theorem d_Mo_watched_32 : decode b_Mo_watched 32 = .ok (.iconst 0, 1) := by decide +kernel
theorem d_Mo_watched_33 : decode b_Mo_watched 33 = .ok (.ireturn, 1) := by decide +kernel
theorem d_Mo_about_0 : decode b_Mo_about 0 = .ok (.aload_n 0, 1) := by decide +kernel
theorem d_Mo_about_1 : decode b_Mo_about 1 = .ok (.iload_n 1, 1) := by decide +kernel
theorem d_Mo_about_2 : decode b_Mo_about 2 = .ok (.invokestatic 42, 3) := by decide +kernel
theorem d_Mo_about_5 : decode b_Mo_about 5 = .ok (.ifCond .eq 12, 3) := by decide +kernel
theorem d_Mo_about_8 : decode b_Mo_about 8 = .ok (.iload_n 2, 1) := by decide +kernel
theorem d_Mo_about_9 : decode b_Mo_about 9 = .ok (.ifCond .lt 8, 3) := by decide +kernel
theorem d_Mo_about_12 : decode b_Mo_about 12 = .ok (.iload_n 2, 1) := by decide +kernel
theorem d_Mo_about_13 : decode b_Mo_about 13 = .ok (.iconst 3, 1) := by decide +kernel
theorem d_Mo_about_14 : decode b_Mo_about 14 = .ok (.if_icmp .le 7, 3) := by decide +kernel
theorem d_Mo_about_17 : decode b_Mo_about 17 = .ok (.iconst 1, 1) := by decide +kernel
theorem d_Mo_about_18 : decode b_Mo_about 18 = .ok (.goto 17, 3) := by decide +kernel
theorem d_Mo_about_21 : decode b_Mo_about 21 = .ok (.aload_n 0, 1) := by decide +kernel
theorem d_Mo_about_22 : decode b_Mo_about 22 = .ok (.getfield 29, 3) := by decide +kernel
theorem d_Mo_about_25 : decode b_Mo_about 25 = .ok (.iload_n 1, 1) := by decide +kernel
theorem d_Mo_about_26 : decode b_Mo_about 26 = .ok (.iaload, 1) := by decide +kernel
theorem d_Mo_about_27 : decode b_Mo_about 27 = .ok (.ifCond .ge 7, 3) := by decide +kernel
theorem d_Mo_about_30 : decode b_Mo_about 30 = .ok (.iconst 2, 1) := by decide +kernel
theorem d_Mo_about_31 : decode b_Mo_about 31 = .ok (.goto 4, 3) := by decide +kernel
theorem d_Mo_about_34 : decode b_Mo_about 34 = .ok (.iconst 0, 1) := by decide +kernel
theorem d_Mo_about_35 : decode b_Mo_about 35 = .ok (.putfield 35, 3) := by decide +kernel
theorem d_Mo_about_38 : decode b_Mo_about 38 = .ok (.aload_n 0, 1) := by decide +kernel
theorem d_Mo_about_39 : decode b_Mo_about 39 = .ok (.getfield 35, 3) := by decide +kernel
theorem d_Mo_about_42 : decode b_Mo_about 42 = .ok (.ifCond .le 5, 3) := by decide +kernel
theorem d_Mo_about_45 : decode b_Mo_about 45 = .ok (.iconst 0, 1) := by decide +kernel
theorem d_Mo_about_46 : decode b_Mo_about 46 = .ok (.ireturn, 1) := by decide +kernel
theorem d_Mo_about_47 : decode b_Mo_about 47 = .ok (.aload_n 0, 1) := by decide +kernel
theorem d_Mo_about_48 : decode b_Mo_about 48 = .ok (.aload_n 0, 1) := by decide +kernel
theorem d_Mo_about_49 : decode b_Mo_about 49 = .ok (.getfield 29, 3) := by decide +kernel
theorem d_Mo_about_52 : decode b_Mo_about 52 = .ok (.iload_n 1, 1) := by decide +kernel
theorem d_Mo_about_53 : decode b_Mo_about 53 = .ok (.iaload, 1) := by decide +kernel
theorem d_Mo_about_54 : decode b_Mo_about 54 = .ok (.invokevirtual 53, 3) := by decide +kernel
theorem d_Mo_about_57 : decode b_Mo_about 57 = .ok (.istore_n 3, 1) := by decide +kernel
theorem d_Mo_about_58 : decode b_Mo_about 58 = .ok (.iload_n 2, 1) := by decide +kernel
theorem d_Mo_about_59 : decode b_Mo_about 59 = .ok (.ifCond .ne 12, 3) := by decide +kernel
theorem d_Mo_about_62 : decode b_Mo_about 62 = .ok (.aload_n 0, 1) := by decide +kernel
theorem d_Mo_about_63 : decode b_Mo_about 63 = .ok (.getfield 7, 3) := by decide +kernel
theorem d_Mo_about_66 : decode b_Mo_about 66 = .ok (.iload_n 3, 1) := by decide +kernel
theorem d_Mo_about_67 : decode b_Mo_about 67 = .ok (.iaload, 1) := by decide +kernel
theorem d_Mo_about_68 : decode b_Mo_about 68 = .ok (.goto 37, 3) := by decide +kernel
theorem d_Mo_about_71 : decode b_Mo_about 71 = .ok (.iload_n 2, 1) := by decide +kernel
theorem d_Mo_about_72 : decode b_Mo_about 72 = .ok (.iconst 1, 1) := by decide +kernel
theorem d_Mo_about_73 : decode b_Mo_about 73 = .ok (.if_icmp .ne 12, 3) := by decide +kernel
theorem d_Mo_about_76 : decode b_Mo_about 76 = .ok (.aload_n 0, 1) := by decide +kernel
theorem d_Mo_about_77 : decode b_Mo_about 77 = .ok (.getfield 13, 3) := by decide +kernel
theorem d_Mo_about_80 : decode b_Mo_about 80 = .ok (.iload_n 3, 1) := by decide +kernel
theorem d_Mo_about_81 : decode b_Mo_about 81 = .ok (.iaload, 1) := by decide +kernel
theorem d_Mo_about_82 : decode b_Mo_about 82 = .ok (.goto 23, 3) := by decide +kernel
theorem d_Mo_about_85 : decode b_Mo_about 85 = .ok (.iload_n 2, 1) := by decide +kernel
theorem d_Mo_about_86 : decode b_Mo_about 86 = .ok (.iconst 2, 1) := by decide +kernel
theorem d_Mo_about_87 : decode b_Mo_about 87 = .ok (.if_icmp .ne 12, 3) := by decide +kernel
theorem d_Mo_about_90 : decode b_Mo_about 90 = .ok (.aload_n 0, 1) := by decide +kernel
theorem d_Mo_about_91 : decode b_Mo_about 91 = .ok (.getfield 16, 3) := by decide +kernel
theorem d_Mo_about_94 : decode b_Mo_about 94 = .ok (.iload_n 3, 1) := by decide +kernel
theorem d_Mo_about_95 : decode b_Mo_about 95 = .ok (.iaload, 1) := by decide +kernel
theorem d_Mo_about_96 : decode b_Mo_about 96 = .ok (.goto 9, 3) := by decide +kernel
theorem d_Mo_about_99 : decode b_Mo_about 99 = .ok (.aload_n 0, 1) := by decide +kernel
theorem d_Mo_about_100 : decode b_Mo_about 100 = .ok (.getfield 19, 3) := by decide +kernel
theorem d_Mo_about_103 : decode b_Mo_about 103 = .ok (.iload_n 3, 1) := by decide +kernel
theorem d_Mo_about_104 : decode b_Mo_about 104 = .ok (.iaload, 1) := by decide +kernel
theorem d_Mo_about_105 : decode b_Mo_about 105 = .ok (.ireturn, 1) := by decide +kernel
theorem d_Mo_field_0 : decode b_Mo_field 0 = .ok (.aload_n 0, 1) := by decide +kernel
theorem d_Mo_field_1 : decode b_Mo_field 1 = .ok (.iload_n 1, 1) := by decide +kernel
theorem d_Mo_field_2 : decode b_Mo_field 2 = .ok (.invokestatic 42, 3) := by decide +kernel
theorem d_Mo_field_5 : decode b_Mo_field 5 = .ok (.ifCond .eq 7, 3) := by decide +kernel
theorem d_Mo_field_8 : decode b_Mo_field 8 = .ok (.iconst 0, 1) := by decide +kernel
theorem d_Mo_field_9 : decode b_Mo_field 9 = .ok (.goto 4, 3) := by decide +kernel
theorem d_Mo_field_12 : decode b_Mo_field 12 = .ok (.iconst 1, 1) := by decide +kernel
theorem d_Mo_field_13 : decode b_Mo_field 13 = .ok (.putfield 35, 3) := by decide +kernel
theorem d_Mo_field_16 : decode b_Mo_field 16 = .ok (.aload_n 0, 1) := by decide +kernel
theorem d_Mo_field_17 : decode b_Mo_field 17 = .ok (.getfield 35, 3) := by decide +kernel
theorem d_Mo_field_20 : decode b_Mo_field 20 = .ok (.ifCond .le 7, 3) := by decide +kernel
theorem d_Mo_field_23 : decode b_Mo_field 23 = .ok (.iconst (-1), 1) := by decide +kernel
theorem d_Mo_field_24 : decode b_Mo_field 24 = .ok (.goto 9, 3) := by decide +kernel
theorem d_Mo_field_27 : decode b_Mo_field 27 = .ok (.aload_n 0, 1) := by decide +kernel
theorem d_Mo_field_28 : decode b_Mo_field 28 = .ok (.iload_n 1, 1) := by decide +kernel
theorem d_Mo_field_29 : decode b_Mo_field 29 = .ok (.iload_n 2, 1) := by decide +kernel
theorem d_Mo_field_30 : decode b_Mo_field 30 = .ok (.invokevirtual 57, 3) := by decide +kernel
theorem d_Mo_field_33 : decode b_Mo_field 33 = .ok (.istore_n 3, 1) := by decide +kernel
theorem d_Mo_field_34 : decode b_Mo_field 34 = .ok (.iload_n 3, 1) := by decide +kernel
theorem d_Mo_field_35 : decode b_Mo_field 35 = .ok (.ifCond .ge 7, 3) := by decide +kernel
theorem d_Mo_field_38 : decode b_Mo_field 38 = .ok (.iconst 0, 1) := by decide +kernel
theorem d_Mo_field_39 : decode b_Mo_field 39 = .ok (.goto 9, 3) := by decide +kernel
theorem d_Mo_field_42 : decode b_Mo_field 42 = .ok (.aload_n 0, 1) := by decide +kernel
theorem d_Mo_field_43 : decode b_Mo_field 43 = .ok (.getfield 22, 3) := by decide +kernel
theorem d_Mo_field_46 : decode b_Mo_field 46 = .ok (.iload_n 3, 1) := by decide +kernel
theorem d_Mo_field_47 : decode b_Mo_field 47 = .ok (.iaload, 1) := by decide +kernel
theorem d_Mo_field_48 : decode b_Mo_field 48 = .ok (.ireturn, 1) := by decide +kernel
theorem d_Mo_same_0 : decode b_Mo_same 0 = .ok (.aload_n 0, 1) := by decide +kernel
theorem d_Mo_same_1 : decode b_Mo_same 1 = .ok (.iload_n 1, 1) := by decide +kernel
theorem d_Mo_same_2 : decode b_Mo_same 2 = .ok (.invokestatic 42, 3) := by decide +kernel
theorem d_Mo_same_5 : decode b_Mo_same 5 = .ok (.ifCond .eq 14, 3) := by decide +kernel
theorem d_Mo_same_8 : decode b_Mo_same 8 = .ok (.iload_n 2, 1) := by decide +kernel
theorem d_Mo_same_9 : decode b_Mo_same 9 = .ok (.invokestatic 42, 3) := by decide +kernel
theorem d_Mo_same_12 : decode b_Mo_same 12 = .ok (.ifCond .eq 7, 3) := by decide +kernel
theorem d_Mo_same_15 : decode b_Mo_same 15 = .ok (.iconst 0, 1) := by decide +kernel
theorem d_Mo_same_16 : decode b_Mo_same 16 = .ok (.goto 4, 3) := by decide +kernel
theorem d_Mo_same_19 : decode b_Mo_same 19 = .ok (.iconst 1, 1) := by decide +kernel
theorem d_Mo_same_20 : decode b_Mo_same 20 = .ok (.putfield 35, 3) := by decide +kernel
theorem d_Mo_same_23 : decode b_Mo_same 23 = .ok (.aload_n 0, 1) := by decide +kernel
theorem d_Mo_same_24 : decode b_Mo_same 24 = .ok (.getfield 35, 3) := by decide +kernel
theorem d_Mo_same_27 : decode b_Mo_same 27 = .ok (.ifCond .ne 22, 3) := by decide +kernel
theorem d_Mo_same_30 : decode b_Mo_same 30 = .ok (.aload_n 0, 1) := by decide +kernel
theorem d_Mo_same_31 : decode b_Mo_same 31 = .ok (.getfield 29, 3) := by decide +kernel
theorem d_Mo_same_34 : decode b_Mo_same 34 = .ok (.iload_n 1, 1) := by decide +kernel
theorem d_Mo_same_35 : decode b_Mo_same 35 = .ok (.iaload, 1) := by decide +kernel
theorem d_Mo_same_36 : decode b_Mo_same 36 = .ok (.aload_n 0, 1) := by decide +kernel
theorem d_Mo_same_37 : decode b_Mo_same 37 = .ok (.getfield 29, 3) := by decide +kernel
theorem d_Mo_same_40 : decode b_Mo_same 40 = .ok (.iload_n 2, 1) := by decide +kernel
theorem d_Mo_same_41 : decode b_Mo_same 41 = .ok (.iaload, 1) := by decide +kernel
theorem d_Mo_same_42 : decode b_Mo_same 42 = .ok (.if_icmp .ne 7, 3) := by decide +kernel
theorem d_Mo_same_45 : decode b_Mo_same 45 = .ok (.iconst 1, 1) := by decide +kernel
theorem d_Mo_same_46 : decode b_Mo_same 46 = .ok (.goto 4, 3) := by decide +kernel
theorem d_Mo_same_49 : decode b_Mo_same 49 = .ok (.iconst 0, 1) := by decide +kernel
theorem d_Mo_same_50 : decode b_Mo_same 50 = .ok (.ireturn, 1) := by decide +kernel
theorem d_Mo_reach_0 : decode b_Mo_reach 0 = .ok (.aload_n 0, 1) := by decide +kernel
theorem d_Mo_reach_1 : decode b_Mo_reach 1 = .ok (.iload_n 1, 1) := by decide +kernel
theorem d_Mo_reach_2 : decode b_Mo_reach 2 = .ok (.invokestatic 42, 3) := by decide +kernel
theorem d_Mo_reach_5 : decode b_Mo_reach 5 = .ok (.ifCond .eq 7, 3) := by decide +kernel
theorem d_Mo_reach_8 : decode b_Mo_reach 8 = .ok (.iconst 0, 1) := by decide +kernel
theorem d_Mo_reach_9 : decode b_Mo_reach 9 = .ok (.goto 4, 3) := by decide +kernel
theorem d_Mo_reach_12 : decode b_Mo_reach 12 = .ok (.iconst 1, 1) := by decide +kernel
theorem d_Mo_reach_13 : decode b_Mo_reach 13 = .ok (.putfield 35, 3) := by decide +kernel
theorem d_Mo_reach_16 : decode b_Mo_reach 16 = .ok (.aload_n 0, 1) := by decide +kernel
theorem d_Mo_reach_17 : decode b_Mo_reach 17 = .ok (.getfield 35, 3) := by decide +kernel
theorem d_Mo_reach_20 : decode b_Mo_reach 20 = .ok (.ifCond .le 5, 3) := by decide +kernel
theorem d_Mo_reach_23 : decode b_Mo_reach 23 = .ok (.iconst 0, 1) := by decide +kernel
theorem d_Mo_reach_24 : decode b_Mo_reach 24 = .ok (.ireturn, 1) := by decide +kernel
theorem d_Mo_reach_25 : decode b_Mo_reach 25 = .ok (.aload_n 0, 1) := by decide +kernel
theorem d_Mo_reach_26 : decode b_Mo_reach 26 = .ok (.invokevirtual 64, 3) := by decide +kernel
theorem d_Mo_reach_29 : decode b_Mo_reach 29 = .ok (.aload_n 0, 1) := by decide +kernel
theorem d_Mo_reach_30 : decode b_Mo_reach 30 = .ok (.aload_n 0, 1) := by decide +kernel
theorem d_Mo_reach_31 : decode b_Mo_reach 31 = .ok (.getfield 29, 3) := by decide +kernel
theorem d_Mo_reach_34 : decode b_Mo_reach 34 = .ok (.iload_n 1, 1) := by decide +kernel
theorem d_Mo_reach_35 : decode b_Mo_reach 35 = .ok (.iaload, 1) := by decide +kernel
theorem d_Mo_reach_36 : decode b_Mo_reach 36 = .ok (.invokevirtual 67, 3) := by decide +kernel
theorem d_Mo_reach_39 : decode b_Mo_reach 39 = .ok (.aload_n 0, 1) := by decide +kernel
theorem d_Mo_reach_40 : decode b_Mo_reach 40 = .ok (.invokevirtual 71, 3) := by decide +kernel
theorem d_Mo_reach_43 : decode b_Mo_reach 43 = .ok (.aload_n 0, 1) := by decide +kernel
theorem d_Mo_reach_44 : decode b_Mo_reach 44 = .ok (.invokevirtual 74, 3) := by decide +kernel
theorem d_Mo_reach_47 : decode b_Mo_reach 47 = .ok (.ireturn, 1) := by decide +kernel
theorem d_Mo_forget_0 : decode b_Mo_forget 0 = .ok (.iconst 0, 1) := by decide +kernel
theorem d_Mo_forget_1 : decode b_Mo_forget 1 = .ok (.istore_n 1, 1) := by decide +kernel
theorem d_Mo_forget_2 : decode b_Mo_forget 2 = .ok (.iload_n 1, 1) := by decide +kernel
theorem d_Mo_forget_3 : decode b_Mo_forget 3 = .ok (.aload_n 0, 1) := by decide +kernel
theorem d_Mo_forget_4 : decode b_Mo_forget 4 = .ok (.getfield 39, 3) := by decide +kernel
theorem d_Mo_forget_7 : decode b_Mo_forget 7 = .ok (.if_icmp .ge 16, 3) := by decide +kernel
theorem d_Mo_forget_10 : decode b_Mo_forget 10 = .ok (.aload_n 0, 1) := by decide +kernel
theorem d_Mo_forget_11 : decode b_Mo_forget 11 = .ok (.getfield 25, 3) := by decide +kernel
theorem d_Mo_forget_14 : decode b_Mo_forget 14 = .ok (.iload_n 1, 1) := by decide +kernel
theorem d_Mo_forget_15 : decode b_Mo_forget 15 = .ok (.iconst 0, 1) := by decide +kernel
theorem d_Mo_forget_16 : decode b_Mo_forget 16 = .ok (.bastore, 1) := by decide +kernel
theorem d_Mo_forget_17 : decode b_Mo_forget 17 = .ok (.iinc 1 1, 3) := by decide +kernel
theorem d_Mo_forget_20 : decode b_Mo_forget 20 = .ok (.goto (-18), 3) := by decide +kernel
theorem d_Mo_forget_23 : decode b_Mo_forget 23 = .ok (.return_, 1) := by decide +kernel
theorem d_Mo_begin_0 : decode b_Mo_begin 0 = .ok (.aload_n 0, 1) := by decide +kernel
theorem d_Mo_begin_1 : decode b_Mo_begin 1 = .ok (.iload_n 1, 1) := by decide +kernel
theorem d_Mo_begin_2 : decode b_Mo_begin 2 = .ok (.invokevirtual 53, 3) := by decide +kernel
theorem d_Mo_begin_5 : decode b_Mo_begin 5 = .ok (.istore_n 2, 1) := by decide +kernel
theorem d_Mo_begin_6 : decode b_Mo_begin 6 = .ok (.iload_n 2, 1) := by decide +kernel
theorem d_Mo_begin_7 : decode b_Mo_begin 7 = .ok (.ifCond .lt 10, 3) := by decide +kernel
theorem d_Mo_begin_10 : decode b_Mo_begin 10 = .ok (.aload_n 0, 1) := by decide +kernel
theorem d_Mo_begin_11 : decode b_Mo_begin 11 = .ok (.getfield 25, 3) := by decide +kernel
theorem d_Mo_begin_14 : decode b_Mo_begin 14 = .ok (.iload_n 2, 1) := by decide +kernel
theorem d_Mo_begin_15 : decode b_Mo_begin 15 = .ok (.iconst 1, 1) := by decide +kernel
theorem d_Mo_begin_16 : decode b_Mo_begin 16 = .ok (.bastore, 1) := by decide +kernel
theorem d_Mo_begin_17 : decode b_Mo_begin 17 = .ok (.return_, 1) := by decide +kernel
theorem d_Mo_spread_0 : decode b_Mo_spread 0 = .ok (.iconst 1, 1) := by decide +kernel
theorem d_Mo_spread_1 : decode b_Mo_spread 1 = .ok (.istore_n 1, 1) := by decide +kernel
theorem d_Mo_spread_2 : decode b_Mo_spread 2 = .ok (.iload_n 1, 1) := by decide +kernel
theorem d_Mo_spread_3 : decode b_Mo_spread 3 = .ok (.ifCond .eq 92, 3) := by decide +kernel
theorem d_Mo_spread_6 : decode b_Mo_spread 6 = .ok (.iconst 0, 1) := by decide +kernel
theorem d_Mo_spread_7 : decode b_Mo_spread 7 = .ok (.istore_n 1, 1) := by decide +kernel
theorem d_Mo_spread_8 : decode b_Mo_spread 8 = .ok (.iconst 0, 1) := by decide +kernel
theorem d_Mo_spread_9 : decode b_Mo_spread 9 = .ok (.istore_n 2, 1) := by decide +kernel
theorem d_Mo_spread_10 : decode b_Mo_spread 10 = .ok (.iload_n 2, 1) := by decide +kernel
theorem d_Mo_spread_11 : decode b_Mo_spread 11 = .ok (.aload_n 0, 1) := by decide +kernel
theorem d_Mo_spread_12 : decode b_Mo_spread 12 = .ok (.getfield 39, 3) := by decide +kernel
theorem d_Mo_spread_15 : decode b_Mo_spread 15 = .ok (.if_icmp .ge 77, 3) := by decide +kernel
theorem d_Mo_spread_18 : decode b_Mo_spread 18 = .ok (.iconst 0, 1) := by decide +kernel
theorem d_Mo_spread_19 : decode b_Mo_spread 19 = .ok (.istore_n 3, 1) := by decide +kernel
theorem d_Mo_spread_20 : decode b_Mo_spread 20 = .ok (.iload_n 3, 1) := by decide +kernel
theorem d_Mo_spread_21 : decode b_Mo_spread 21 = .ok (.aload_n 0, 1) := by decide +kernel
theorem d_Mo_spread_22 : decode b_Mo_spread 22 = .ok (.getfield 19, 3) := by decide +kernel
theorem d_Mo_spread_25 : decode b_Mo_spread 25 = .ok (.iload_n 2, 1) := by decide +kernel
theorem d_Mo_spread_26 : decode b_Mo_spread 26 = .ok (.iaload, 1) := by decide +kernel
theorem d_Mo_spread_27 : decode b_Mo_spread 27 = .ok (.if_icmp .ge 59, 3) := by decide +kernel
theorem d_Mo_spread_30 : decode b_Mo_spread 30 = .ok (.aload_n 0, 1) := by decide +kernel
theorem d_Mo_spread_31 : decode b_Mo_spread 31 = .ok (.getfield 25, 3) := by decide +kernel
theorem d_Mo_spread_34 : decode b_Mo_spread 34 = .ok (.iload_n 2, 1) := by decide +kernel
theorem d_Mo_spread_35 : decode b_Mo_spread 35 = .ok (.baload, 1) := by decide +kernel
theorem d_Mo_spread_36 : decode b_Mo_spread 36 = .ok (.ifCond .eq 50, 3) := by decide +kernel
theorem d_Mo_spread_39 : decode b_Mo_spread 39 = .ok (.aload_n 0, 1) := by decide +kernel
theorem d_Mo_spread_40 : decode b_Mo_spread 40 = .ok (.aload_n 0, 1) := by decide +kernel
theorem d_Mo_spread_41 : decode b_Mo_spread 41 = .ok (.getfield 22, 3) := by decide +kernel
theorem d_Mo_spread_44 : decode b_Mo_spread 44 = .ok (.iconst 4, 1) := by decide +kernel
theorem d_Mo_spread_45 : decode b_Mo_spread 45 = .ok (.iload_n 2, 1) := by decide +kernel
theorem d_Mo_spread_46 : decode b_Mo_spread 46 = .ok (.imul, 1) := by decide +kernel
theorem d_Mo_spread_47 : decode b_Mo_spread 47 = .ok (.iload_n 3, 1) := by decide +kernel
theorem d_Mo_spread_48 : decode b_Mo_spread 48 = .ok (.iadd, 1) := by decide +kernel
theorem d_Mo_spread_49 : decode b_Mo_spread 49 = .ok (.iaload, 1) := by decide +kernel
theorem d_Mo_spread_50 : decode b_Mo_spread 50 = .ok (.invokevirtual 53, 3) := by decide +kernel
theorem d_Mo_spread_53 : decode b_Mo_spread 53 = .ok (.istore 4, 2) := by decide +kernel
theorem d_Mo_spread_55 : decode b_Mo_spread 55 = .ok (.iload 4, 2) := by decide +kernel
theorem d_Mo_spread_57 : decode b_Mo_spread 57 = .ok (.ifCond .lt 23, 3) := by decide +kernel
theorem d_Mo_spread_60 : decode b_Mo_spread 60 = .ok (.aload_n 0, 1) := by decide +kernel
theorem d_Mo_spread_61 : decode b_Mo_spread 61 = .ok (.getfield 25, 3) := by decide +kernel
theorem d_Mo_spread_64 : decode b_Mo_spread 64 = .ok (.iload 4, 2) := by decide +kernel
theorem d_Mo_spread_66 : decode b_Mo_spread 66 = .ok (.baload, 1) := by decide +kernel
theorem d_Mo_spread_67 : decode b_Mo_spread 67 = .ok (.ifCond .ne 13, 3) := by decide +kernel
theorem d_Mo_spread_70 : decode b_Mo_spread 70 = .ok (.aload_n 0, 1) := by decide +kernel
theorem d_Mo_spread_71 : decode b_Mo_spread 71 = .ok (.getfield 25, 3) := by decide +kernel
theorem d_Mo_spread_74 : decode b_Mo_spread 74 = .ok (.iload 4, 2) := by decide +kernel
theorem d_Mo_spread_76 : decode b_Mo_spread 76 = .ok (.iconst 1, 1) := by decide +kernel
theorem d_Mo_spread_77 : decode b_Mo_spread 77 = .ok (.bastore, 1) := by decide +kernel
theorem d_Mo_spread_78 : decode b_Mo_spread 78 = .ok (.iconst 1, 1) := by decide +kernel
theorem d_Mo_spread_79 : decode b_Mo_spread 79 = .ok (.istore_n 1, 1) := by decide +kernel
theorem d_Mo_spread_80 : decode b_Mo_spread 80 = .ok (.iinc 3 1, 3) := by decide +kernel
theorem d_Mo_spread_83 : decode b_Mo_spread 83 = .ok (.goto (-63), 3) := by decide +kernel
theorem d_Mo_spread_86 : decode b_Mo_spread 86 = .ok (.iinc 2 1, 3) := by decide +kernel
theorem d_Mo_spread_89 : decode b_Mo_spread 89 = .ok (.goto (-79), 3) := by decide +kernel
theorem d_Mo_spread_92 : decode b_Mo_spread 92 = .ok (.goto (-90), 3) := by decide +kernel
theorem d_Mo_spread_95 : decode b_Mo_spread 95 = .ok (.return_, 1) := by decide +kernel
theorem d_Mo_marked_0 : decode b_Mo_marked 0 = .ok (.iconst 0, 1) := by decide +kernel
theorem d_Mo_marked_1 : decode b_Mo_marked 1 = .ok (.istore_n 1, 1) := by decide +kernel
theorem d_Mo_marked_2 : decode b_Mo_marked 2 = .ok (.iconst 0, 1) := by decide +kernel
theorem d_Mo_marked_3 : decode b_Mo_marked 3 = .ok (.istore_n 2, 1) := by decide +kernel
theorem d_Mo_marked_4 : decode b_Mo_marked 4 = .ok (.iload_n 2, 1) := by decide +kernel
theorem d_Mo_marked_5 : decode b_Mo_marked 5 = .ok (.aload_n 0, 1) := by decide +kernel
theorem d_Mo_marked_6 : decode b_Mo_marked 6 = .ok (.getfield 39, 3) := by decide +kernel
theorem d_Mo_marked_9 : decode b_Mo_marked 9 = .ok (.if_icmp .ge 26, 3) := by decide +kernel
theorem d_Mo_marked_12 : decode b_Mo_marked 12 = .ok (.iload_n 1, 1) := by decide +kernel
theorem d_Mo_marked_13 : decode b_Mo_marked 13 = .ok (.aload_n 0, 1) := by decide +kernel
theorem d_Mo_marked_14 : decode b_Mo_marked 14 = .ok (.getfield 25, 3) := by decide +kernel
theorem d_Mo_marked_17 : decode b_Mo_marked 17 = .ok (.iload_n 2, 1) := by decide +kernel
theorem d_Mo_marked_18 : decode b_Mo_marked 18 = .ok (.baload, 1) := by decide +kernel
theorem d_Mo_marked_19 : decode b_Mo_marked 19 = .ok (.ifCond .eq 7, 3) := by decide +kernel
theorem d_Mo_marked_22 : decode b_Mo_marked 22 = .ok (.iconst 1, 1) := by decide +kernel
theorem d_Mo_marked_23 : decode b_Mo_marked 23 = .ok (.goto 4, 3) := by decide +kernel
theorem d_Mo_marked_26 : decode b_Mo_marked 26 = .ok (.iconst 0, 1) := by decide +kernel
theorem d_Mo_marked_27 : decode b_Mo_marked 27 = .ok (.iadd, 1) := by decide +kernel
theorem d_Mo_marked_28 : decode b_Mo_marked 28 = .ok (.istore_n 1, 1) := by decide +kernel
theorem d_Mo_marked_29 : decode b_Mo_marked 29 = .ok (.iinc 2 1, 3) := by decide +kernel
theorem d_Mo_marked_32 : decode b_Mo_marked 32 = .ok (.goto (-28), 3) := by decide +kernel
theorem d_Mo_marked_35 : decode b_Mo_marked 35 = .ok (.iload_n 1, 1) := by decide +kernel
theorem d_Mo_marked_36 : decode b_Mo_marked 36 = .ok (.ireturn, 1) := by decide +kernel
theorem d_Mo_collect_0 : decode b_Mo_collect 0 = .ok (.aload_n 0, 1) := by decide +kernel
theorem d_Mo_collect_1 : decode b_Mo_collect 1 = .ok (.iload_n 1, 1) := by decide +kernel
theorem d_Mo_collect_2 : decode b_Mo_collect 2 = .ok (.iconst 1, 1) := by decide +kernel
theorem d_Mo_collect_3 : decode b_Mo_collect 3 = .ok (.if_icmp .lt 8, 3) := by decide +kernel
theorem d_Mo_collect_6 : decode b_Mo_collect 6 = .ok (.iload_n 1, 1) := by decide +kernel
theorem d_Mo_collect_7 : decode b_Mo_collect 7 = .ok (.iconst 4, 1) := by decide +kernel
theorem d_Mo_collect_8 : decode b_Mo_collect 8 = .ok (.if_icmp .le 7, 3) := by decide +kernel
theorem d_Mo_collect_11 : decode b_Mo_collect 11 = .ok (.iconst 1, 1) := by decide +kernel
theorem d_Mo_collect_12 : decode b_Mo_collect 12 = .ok (.goto 4, 3) := by decide +kernel
theorem d_Mo_collect_15 : decode b_Mo_collect 15 = .ok (.iconst 0, 1) := by decide +kernel
theorem d_Mo_collect_16 : decode b_Mo_collect 16 = .ok (.putfield 35, 3) := by decide +kernel
theorem d_Mo_collect_19 : decode b_Mo_collect 19 = .ok (.aload_n 0, 1) := by decide +kernel
theorem d_Mo_collect_20 : decode b_Mo_collect 20 = .ok (.getfield 35, 3) := by decide +kernel
theorem d_Mo_collect_23 : decode b_Mo_collect 23 = .ok (.ifCond .le 5, 3) := by decide +kernel
theorem d_Mo_collect_26 : decode b_Mo_collect 26 = .ok (.iconst 0, 1) := by decide +kernel
theorem d_Mo_collect_27 : decode b_Mo_collect 27 = .ok (.ireturn, 1) := by decide +kernel
theorem d_Mo_collect_28 : decode b_Mo_collect 28 = .ok (.aload_n 0, 1) := by decide +kernel
theorem d_Mo_collect_29 : decode b_Mo_collect 29 = .ok (.invokevirtual 64, 3) := by decide +kernel
theorem d_Mo_collect_32 : decode b_Mo_collect 32 = .ok (.iconst 0, 1) := by decide +kernel
theorem d_Mo_collect_33 : decode b_Mo_collect 33 = .ok (.istore_n 3, 1) := by decide +kernel
theorem d_Mo_collect_34 : decode b_Mo_collect 34 = .ok (.iload_n 3, 1) := by decide +kernel
theorem d_Mo_collect_35 : decode b_Mo_collect 35 = .ok (.bipush 8, 2) := by decide +kernel
theorem d_Mo_collect_37 : decode b_Mo_collect 37 = .ok (.if_icmp .ge 19, 3) := by decide +kernel
theorem d_Mo_collect_40 : decode b_Mo_collect 40 = .ok (.aload_n 0, 1) := by decide +kernel
theorem d_Mo_collect_41 : decode b_Mo_collect 41 = .ok (.aload_n 0, 1) := by decide +kernel
theorem d_Mo_collect_42 : decode b_Mo_collect 42 = .ok (.getfield 29, 3) := by decide +kernel
theorem d_Mo_collect_45 : decode b_Mo_collect 45 = .ok (.iload_n 3, 1) := by decide +kernel
theorem d_Mo_collect_46 : decode b_Mo_collect 46 = .ok (.iaload, 1) := by decide +kernel
theorem d_Mo_collect_47 : decode b_Mo_collect 47 = .ok (.invokevirtual 67, 3) := by decide +kernel
theorem d_Mo_collect_50 : decode b_Mo_collect 50 = .ok (.iinc 3 1, 3) := by decide +kernel
theorem d_Mo_collect_53 : decode b_Mo_collect 53 = .ok (.goto (-19), 3) := by decide +kernel
theorem d_Mo_collect_56 : decode b_Mo_collect 56 = .ok (.aload_n 0, 1) := by decide +kernel
theorem d_Mo_collect_57 : decode b_Mo_collect 57 = .ok (.invokevirtual 71, 3) := by decide +kernel
theorem d_Mo_collect_60 : decode b_Mo_collect 60 = .ok (.iconst 0, 1) := by decide +kernel
theorem d_Mo_collect_61 : decode b_Mo_collect 61 = .ok (.istore_n 3, 1) := by decide +kernel
theorem d_Mo_collect_62 : decode b_Mo_collect 62 = .ok (.iconst 0, 1) := by decide +kernel
theorem d_Mo_collect_63 : decode b_Mo_collect 63 = .ok (.istore 4, 2) := by decide +kernel
theorem d_Mo_collect_65 : decode b_Mo_collect 65 = .ok (.iload 4, 2) := by decide +kernel
theorem d_Mo_collect_67 : decode b_Mo_collect 67 = .ok (.aload_n 0, 1) := by decide +kernel
theorem d_Mo_collect_68 : decode b_Mo_collect 68 = .ok (.getfield 39, 3) := by decide +kernel
theorem d_Mo_collect_71 : decode b_Mo_collect 71 = .ok (.if_icmp .ge 29, 3) := by decide +kernel
theorem d_Mo_collect_74 : decode b_Mo_collect 74 = .ok (.aload_n 0, 1) := by decide +kernel
theorem d_Mo_collect_75 : decode b_Mo_collect 75 = .ok (.getfield 25, 3) := by decide +kernel
theorem d_Mo_collect_78 : decode b_Mo_collect 78 = .ok (.iload 4, 2) := by decide +kernel
theorem d_Mo_collect_80 : decode b_Mo_collect 80 = .ok (.baload, 1) := by decide +kernel
theorem d_Mo_collect_81 : decode b_Mo_collect 81 = .ok (.ifCond .eq 13, 3) := by decide +kernel
theorem d_Mo_collect_84 : decode b_Mo_collect 84 = .ok (.aload_n 0, 1) := by decide +kernel
theorem d_Mo_collect_85 : decode b_Mo_collect 85 = .ok (.iload 4, 2) := by decide +kernel
theorem d_Mo_collect_87 : decode b_Mo_collect 87 = .ok (.iload_n 3, 1) := by decide +kernel
theorem d_Mo_collect_88 : decode b_Mo_collect 88 = .ok (.invokevirtual 77, 3) := by decide +kernel
theorem d_Mo_collect_91 : decode b_Mo_collect 91 = .ok (.iinc 3 1, 3) := by decide +kernel
theorem d_Mo_collect_94 : decode b_Mo_collect 94 = .ok (.iinc 4 1, 3) := by decide +kernel
theorem d_Mo_collect_97 : decode b_Mo_collect 97 = .ok (.goto (-32), 3) := by decide +kernel
theorem d_Mo_collect_100 : decode b_Mo_collect 100 = .ok (.aload_n 0, 1) := by decide +kernel
theorem d_Mo_collect_101 : decode b_Mo_collect 101 = .ok (.getfield 39, 3) := by decide +kernel
theorem d_Mo_collect_104 : decode b_Mo_collect 104 = .ok (.iload_n 3, 1) := by decide +kernel
theorem d_Mo_collect_105 : decode b_Mo_collect 105 = .ok (.isub, 1) := by decide +kernel
theorem d_Mo_collect_106 : decode b_Mo_collect 106 = .ok (.istore 4, 2) := by decide +kernel
theorem d_Mo_collect_108 : decode b_Mo_collect 108 = .ok (.aload_n 0, 1) := by decide +kernel
theorem d_Mo_collect_109 : decode b_Mo_collect 109 = .ok (.iload_n 3, 1) := by decide +kernel
theorem d_Mo_collect_110 : decode b_Mo_collect 110 = .ok (.putfield 39, 3) := by decide +kernel
theorem d_Mo_collect_113 : decode b_Mo_collect 113 = .ok (.iconst 0, 1) := by decide +kernel
theorem d_Mo_collect_114 : decode b_Mo_collect 114 = .ok (.istore 5, 2) := by decide +kernel
theorem d_Mo_collect_116 : decode b_Mo_collect 116 = .ok (.iload 5, 2) := by decide +kernel
theorem d_Mo_collect_118 : decode b_Mo_collect 118 = .ok (.iconst 4, 1) := by decide +kernel
theorem d_Mo_collect_119 : decode b_Mo_collect 119 = .ok (.if_icmp .ge 41, 3) := by decide +kernel
theorem d_Mo_collect_122 : decode b_Mo_collect 122 = .ok (.aload_n 0, 1) := by decide +kernel
theorem d_Mo_collect_123 : decode b_Mo_collect 123 = .ok (.getfield 32, 3) := by decide +kernel
theorem d_Mo_collect_126 : decode b_Mo_collect 126 = .ok (.iload 5, 2) := by decide +kernel
theorem d_Mo_collect_128 : decode b_Mo_collect 128 = .ok (.aload_n 0, 1) := by decide +kernel
theorem d_Mo_collect_129 : decode b_Mo_collect 129 = .ok (.aload_n 0, 1) := by decide +kernel
theorem d_Mo_collect_130 : decode b_Mo_collect 130 = .ok (.getfield 32, 3) := by decide +kernel
theorem d_Mo_collect_133 : decode b_Mo_collect 133 = .ok (.iload 5, 2) := by decide +kernel
theorem d_Mo_collect_135 : decode b_Mo_collect 135 = .ok (.iaload, 1) := by decide +kernel
theorem d_Mo_collect_136 : decode b_Mo_collect 136 = .ok (.invokevirtual 53, 3) := by decide +kernel
theorem d_Mo_collect_139 : decode b_Mo_collect 139 = .ok (.ifCond .ge 7, 3) := by decide +kernel
theorem d_Mo_collect_142 : decode b_Mo_collect 142 = .ok (.iconst (-1), 1) := by decide +kernel
theorem d_Mo_collect_143 : decode b_Mo_collect 143 = .ok (.goto 10, 3) := by decide +kernel
theorem d_Mo_collect_146 : decode b_Mo_collect 146 = .ok (.aload_n 0, 1) := by decide +kernel
theorem d_Mo_collect_147 : decode b_Mo_collect 147 = .ok (.getfield 32, 3) := by decide +kernel
theorem d_Mo_collect_150 : decode b_Mo_collect 150 = .ok (.iload 5, 2) := by decide +kernel
theorem d_Mo_collect_152 : decode b_Mo_collect 152 = .ok (.iaload, 1) := by decide +kernel
theorem d_Mo_collect_153 : decode b_Mo_collect 153 = .ok (.iastore, 1) := by decide +kernel
theorem d_Mo_collect_154 : decode b_Mo_collect 154 = .ok (.iinc 5 1, 3) := by decide +kernel
theorem d_Mo_collect_157 : decode b_Mo_collect 157 = .ok (.goto (-41), 3) := by decide +kernel
theorem d_Mo_collect_160 : decode b_Mo_collect 160 = .ok (.aload_n 0, 1) := by decide +kernel
theorem d_Mo_collect_161 : decode b_Mo_collect 161 = .ok (.dup, 1) := by decide +kernel
theorem d_Mo_collect_162 : decode b_Mo_collect 162 = .ok (.getfield 81, 3) := by decide +kernel
theorem d_Mo_collect_165 : decode b_Mo_collect 165 = .ok (.iconst 1, 1) := by decide +kernel
theorem d_Mo_collect_166 : decode b_Mo_collect 166 = .ok (.iadd, 1) := by decide +kernel
theorem d_Mo_collect_167 : decode b_Mo_collect 167 = .ok (.putfield 81, 3) := by decide +kernel
theorem d_Mo_collect_170 : decode b_Mo_collect 170 = .ok (.iload 4, 2) := by decide +kernel
theorem d_Mo_collect_172 : decode b_Mo_collect 172 = .ok (.ireturn, 1) := by decide +kernel
theorem d_Mo_move_0 : decode b_Mo_move 0 = .ok (.aload_n 0, 1) := by decide +kernel
theorem d_Mo_move_1 : decode b_Mo_move 1 = .ok (.getfield 7, 3) := by decide +kernel
theorem d_Mo_move_4 : decode b_Mo_move 4 = .ok (.iload_n 2, 1) := by decide +kernel
theorem d_Mo_move_5 : decode b_Mo_move 5 = .ok (.aload_n 0, 1) := by decide +kernel
theorem d_Mo_move_6 : decode b_Mo_move 6 = .ok (.getfield 7, 3) := by decide +kernel
theorem d_Mo_move_9 : decode b_Mo_move 9 = .ok (.iload_n 1, 1) := by decide +kernel
theorem d_Mo_move_10 : decode b_Mo_move 10 = .ok (.iaload, 1) := by decide +kernel
theorem d_Mo_move_11 : decode b_Mo_move 11 = .ok (.iastore, 1) := by decide +kernel
theorem d_Mo_move_12 : decode b_Mo_move 12 = .ok (.aload_n 0, 1) := by decide +kernel
theorem d_Mo_move_13 : decode b_Mo_move 13 = .ok (.getfield 13, 3) := by decide +kernel
theorem d_Mo_move_16 : decode b_Mo_move 16 = .ok (.iload_n 2, 1) := by decide +kernel
theorem d_Mo_move_17 : decode b_Mo_move 17 = .ok (.aload_n 0, 1) := by decide +kernel
theorem d_Mo_move_18 : decode b_Mo_move 18 = .ok (.getfield 13, 3) := by decide +kernel
theorem d_Mo_move_21 : decode b_Mo_move 21 = .ok (.iload_n 1, 1) := by decide +kernel
theorem d_Mo_move_22 : decode b_Mo_move 22 = .ok (.iaload, 1) := by decide +kernel
theorem d_Mo_move_23 : decode b_Mo_move 23 = .ok (.iastore, 1) := by decide +kernel
theorem d_Mo_move_24 : decode b_Mo_move 24 = .ok (.aload_n 0, 1) := by decide +kernel
theorem d_Mo_move_25 : decode b_Mo_move 25 = .ok (.getfield 16, 3) := by decide +kernel
theorem d_Mo_move_28 : decode b_Mo_move 28 = .ok (.iload_n 2, 1) := by decide +kernel
theorem d_Mo_move_29 : decode b_Mo_move 29 = .ok (.aload_n 0, 1) := by decide +kernel
theorem d_Mo_move_30 : decode b_Mo_move 30 = .ok (.getfield 16, 3) := by decide +kernel
theorem d_Mo_move_33 : decode b_Mo_move 33 = .ok (.iload_n 1, 1) := by decide +kernel
theorem d_Mo_move_34 : decode b_Mo_move 34 = .ok (.iaload, 1) := by decide +kernel
theorem d_Mo_move_35 : decode b_Mo_move 35 = .ok (.iconst 1, 1) := by decide +kernel
theorem d_Mo_move_36 : decode b_Mo_move 36 = .ok (.iadd, 1) := by decide +kernel
theorem d_Mo_move_37 : decode b_Mo_move 37 = .ok (.iastore, 1) := by decide +kernel
theorem d_Mo_move_38 : decode b_Mo_move 38 = .ok (.aload_n 0, 1) := by decide +kernel
theorem d_Mo_move_39 : decode b_Mo_move 39 = .ok (.getfield 19, 3) := by decide +kernel
theorem d_Mo_move_42 : decode b_Mo_move 42 = .ok (.iload_n 2, 1) := by decide +kernel
theorem d_Mo_move_43 : decode b_Mo_move 43 = .ok (.aload_n 0, 1) := by decide +kernel
theorem d_Mo_move_44 : decode b_Mo_move 44 = .ok (.getfield 19, 3) := by decide +kernel
theorem d_Mo_move_47 : decode b_Mo_move 47 = .ok (.iload_n 1, 1) := by decide +kernel
theorem d_Mo_move_48 : decode b_Mo_move 48 = .ok (.iaload, 1) := by decide +kernel
theorem d_Mo_move_49 : decode b_Mo_move 49 = .ok (.iastore, 1) := by decide +kernel
theorem d_Mo_move_50 : decode b_Mo_move 50 = .ok (.iconst 0, 1) := by decide +kernel
theorem d_Mo_move_51 : decode b_Mo_move 51 = .ok (.istore_n 3, 1) := by decide +kernel
theorem d_Mo_move_52 : decode b_Mo_move 52 = .ok (.iload_n 3, 1) := by decide +kernel
theorem d_Mo_move_53 : decode b_Mo_move 53 = .ok (.iconst 4, 1) := by decide +kernel
theorem d_Mo_move_54 : decode b_Mo_move 54 = .ok (.if_icmp .ge 29, 3) := by decide +kernel
theorem d_Mo_move_57 : decode b_Mo_move 57 = .ok (.aload_n 0, 1) := by decide +kernel
theorem d_Mo_move_58 : decode b_Mo_move 58 = .ok (.getfield 22, 3) := by decide +kernel
theorem d_Mo_move_61 : decode b_Mo_move 61 = .ok (.iconst 4, 1) := by decide +kernel
theorem d_Mo_move_62 : decode b_Mo_move 62 = .ok (.iload_n 2, 1) := by decide +kernel
theorem d_Mo_move_63 : decode b_Mo_move 63 = .ok (.imul, 1) := by decide +kernel
theorem d_Mo_move_64 : decode b_Mo_move 64 = .ok (.iload_n 3, 1) := by decide +kernel
theorem d_Mo_move_65 : decode b_Mo_move 65 = .ok (.iadd, 1) := by decide +kernel
theorem d_Mo_move_66 : decode b_Mo_move 66 = .ok (.aload_n 0, 1) := by decide +kernel
theorem d_Mo_move_67 : decode b_Mo_move 67 = .ok (.getfield 22, 3) := by decide +kernel
theorem d_Mo_move_70 : decode b_Mo_move 70 = .ok (.iconst 4, 1) := by decide +kernel
theorem d_Mo_move_71 : decode b_Mo_move 71 = .ok (.iload_n 1, 1) := by decide +kernel
theorem d_Mo_move_72 : decode b_Mo_move 72 = .ok (.imul, 1) := by decide +kernel
theorem d_Mo_move_73 : decode b_Mo_move 73 = .ok (.iload_n 3, 1) := by decide +kernel
theorem d_Mo_move_74 : decode b_Mo_move 74 = .ok (.iadd, 1) := by decide +kernel
theorem d_Mo_move_75 : decode b_Mo_move 75 = .ok (.iaload, 1) := by decide +kernel
theorem d_Mo_move_76 : decode b_Mo_move 76 = .ok (.iastore, 1) := by decide +kernel
theorem d_Mo_move_77 : decode b_Mo_move 77 = .ok (.iinc 3 1, 3) := by decide +kernel
theorem d_Mo_move_80 : decode b_Mo_move 80 = .ok (.goto (-28), 3) := by decide +kernel
theorem d_Mo_move_83 : decode b_Mo_move 83 = .ok (.return_, 1) := by decide +kernel
theorem d_Mo_figure_0 : decode b_Mo_figure 0 = .ok (.aload_n 0, 1) := by decide +kernel
theorem d_Mo_figure_1 : decode b_Mo_figure 1 = .ok (.iload_n 1, 1) := by decide +kernel
theorem d_Mo_figure_2 : decode b_Mo_figure 2 = .ok (.ifCond .lt 8, 3) := by decide +kernel
theorem d_Mo_figure_5 : decode b_Mo_figure 5 = .ok (.iload_n 1, 1) := by decide +kernel
theorem d_Mo_figure_6 : decode b_Mo_figure 6 = .ok (.iconst 3, 1) := by decide +kernel
theorem d_Mo_figure_7 : decode b_Mo_figure 7 = .ok (.if_icmp .le 7, 3) := by decide +kernel
theorem d_Mo_figure_10 : decode b_Mo_figure 10 = .ok (.iconst 1, 1) := by decide +kernel
theorem d_Mo_figure_11 : decode b_Mo_figure 11 = .ok (.goto 4, 3) := by decide +kernel
theorem d_Mo_figure_14 : decode b_Mo_figure 14 = .ok (.iconst 0, 1) := by decide +kernel
theorem d_Mo_figure_15 : decode b_Mo_figure 15 = .ok (.putfield 35, 3) := by decide +kernel
theorem d_Mo_figure_18 : decode b_Mo_figure 18 = .ok (.iload_n 1, 1) := by decide +kernel
theorem d_Mo_figure_19 : decode b_Mo_figure 19 = .ok (.tableswitch 49 0 3 #[29, 34, 39, 44], 29) := by decide +kernel
theorem d_Mo_figure_48 : decode b_Mo_figure 48 = .ok (.aload_n 0, 1) := by decide +kernel
theorem d_Mo_figure_49 : decode b_Mo_figure 49 = .ok (.invokevirtual 46, 3) := by decide +kernel
theorem d_Mo_figure_52 : decode b_Mo_figure 52 = .ok (.ireturn, 1) := by decide +kernel
theorem d_Mo_figure_53 : decode b_Mo_figure 53 = .ok (.aload_n 0, 1) := by decide +kernel
theorem d_Mo_figure_54 : decode b_Mo_figure 54 = .ok (.getfield 39, 3) := by decide +kernel
theorem d_Mo_figure_57 : decode b_Mo_figure 57 = .ok (.ireturn, 1) := by decide +kernel
theorem d_Mo_figure_58 : decode b_Mo_figure 58 = .ok (.aload_n 0, 1) := by decide +kernel
theorem d_Mo_figure_59 : decode b_Mo_figure 59 = .ok (.getfield 81, 3) := by decide +kernel
theorem d_Mo_figure_62 : decode b_Mo_figure 62 = .ok (.ireturn, 1) := by decide +kernel
theorem d_Mo_figure_63 : decode b_Mo_figure 63 = .ok (.aload_n 0, 1) := by decide +kernel
theorem d_Mo_figure_64 : decode b_Mo_figure 64 = .ok (.getfield 50, 3) := by decide +kernel
theorem d_Mo_figure_67 : decode b_Mo_figure 67 = .ok (.ireturn, 1) := by decide +kernel
theorem d_Mo_figure_68 : decode b_Mo_figure 68 = .ok (.iconst 0, 1) := by decide +kernel
theorem d_Mo_figure_69 : decode b_Mo_figure 69 = .ok (.ireturn, 1) := by decide +kernel
