theorem d_La_make_0 : decode b_La_make 0 = .ok (.aload 4, 2) := by decide +kernel
theorem d_La_make_2 : decode b_La_make 2 = .ok (.iconst 0, 1) := by decide +kernel
theorem d_La_make_3 : decode b_La_make 3 = .ok (.aload_n 0, 1) := by decide +kernel
theorem d_La_make_4 : decode b_La_make 4 = .ok (.iload_n 1, 1) := by decide +kernel
theorem d_La_make_5 : decode b_La_make 5 = .ok (.iload_n 2, 1) := by decide +kernel
theorem d_La_make_6 : decode b_La_make 6 = .ok (.iload_n 3, 1) := by decide +kernel
theorem d_La_make_7 : decode b_La_make 7 = .ok (.invokevirtual 7, 3) := by decide +kernel
theorem d_La_make_10 : decode b_La_make 10 = .ok (.i2l, 1) := by decide +kernel
theorem d_La_make_11 : decode b_La_make 11 = .ok (.lastore, 1) := by decide +kernel
theorem d_La_make_12 : decode b_La_make 12 = .ok (.goto 11, 3) := by decide +kernel
theorem d_La_make_15 : decode b_La_make 15 = .ok (.astore 5, 2) := by decide +kernel
theorem d_La_make_17 : decode b_La_make 17 = .ok (.iconst 1, 1) := by decide +kernel
theorem d_La_make_18 : decode b_La_make 18 = .ok (.ireturn, 1) := by decide +kernel
theorem d_La_make_19 : decode b_La_make 19 = .ok (.astore 5, 2) := by decide +kernel
theorem d_La_make_21 : decode b_La_make 21 = .ok (.iconst 2, 1) := by decide +kernel
theorem d_La_make_22 : decode b_La_make 22 = .ok (.ireturn, 1) := by decide +kernel
theorem d_La_make_23 : decode b_La_make 23 = .ok (.iconst 0, 1) := by decide +kernel
theorem d_La_make_24 : decode b_La_make 24 = .ok (.ireturn, 1) := by decide +kernel
theorem d_La_set_0 : decode b_La_set 0 = .ok (.aload_n 0, 1) := by decide +kernel
theorem d_La_set_1 : decode b_La_set 1 = .ok (.iload_n 1, 1) := by decide +kernel
theorem d_La_set_2 : decode b_La_set 2 = .ok (.iload_n 2, 1) := by decide +kernel
theorem d_La_set_3 : decode b_La_set 3 = .ok (.iload_n 3, 1) := by decide +kernel
theorem d_La_set_4 : decode b_La_set 4 = .ok (.invokevirtual 17, 3) := by decide +kernel
theorem d_La_set_7 : decode b_La_set 7 = .ok (.goto 15, 3) := by decide +kernel
theorem d_La_set_10 : decode b_La_set 10 = .ok (.astore 4, 2) := by decide +kernel
theorem d_La_set_12 : decode b_La_set 12 = .ok (.iconst 1, 1) := by decide +kernel
theorem d_La_set_13 : decode b_La_set 13 = .ok (.ireturn, 1) := by decide +kernel
theorem d_La_set_14 : decode b_La_set 14 = .ok (.astore 4, 2) := by decide +kernel
theorem d_La_set_16 : decode b_La_set 16 = .ok (.iconst 2, 1) := by decide +kernel
theorem d_La_set_17 : decode b_La_set 17 = .ok (.ireturn, 1) := by decide +kernel
theorem d_La_set_18 : decode b_La_set 18 = .ok (.astore 4, 2) := by decide +kernel
theorem d_La_set_20 : decode b_La_set 20 = .ok (.iconst 3, 1) := by decide +kernel
theorem d_La_set_21 : decode b_La_set 21 = .ok (.ireturn, 1) := by decide +kernel
theorem d_La_set_22 : decode b_La_set 22 = .ok (.iconst 0, 1) := by decide +kernel
theorem d_La_set_23 : decode b_La_set 23 = .ok (.ireturn, 1) := by decide +kernel
theorem d_La_get_0 : decode b_La_get 0 = .ok (.aload_n 0, 1) := by decide +kernel
theorem d_La_get_1 : decode b_La_get 1 = .ok (.iload_n 1, 1) := by decide +kernel
theorem d_La_get_2 : decode b_La_get 2 = .ok (.iload_n 2, 1) := by decide +kernel
theorem d_La_get_3 : decode b_La_get 3 = .ok (.iload_n 3, 1) := by decide +kernel
theorem d_La_get_4 : decode b_La_get 4 = .ok (.invokevirtual 25, 3) := by decide +kernel
theorem d_La_get_7 : decode b_La_get 7 = .ok (.goto 15, 3) := by decide +kernel
theorem d_La_get_10 : decode b_La_get 10 = .ok (.astore 4, 2) := by decide +kernel
theorem d_La_get_12 : decode b_La_get 12 = .ok (.iconst 1, 1) := by decide +kernel
theorem d_La_get_13 : decode b_La_get 13 = .ok (.ireturn, 1) := by decide +kernel
theorem d_La_get_14 : decode b_La_get 14 = .ok (.astore 4, 2) := by decide +kernel
theorem d_La_get_16 : decode b_La_get 16 = .ok (.iconst 2, 1) := by decide +kernel
theorem d_La_get_17 : decode b_La_get 17 = .ok (.ireturn, 1) := by decide +kernel
theorem d_La_get_18 : decode b_La_get 18 = .ok (.astore 4, 2) := by decide +kernel
theorem d_La_get_20 : decode b_La_get 20 = .ok (.iconst 3, 1) := by decide +kernel
theorem d_La_get_21 : decode b_La_get 21 = .ok (.ireturn, 1) := by decide +kernel
theorem d_La_get_22 : decode b_La_get 22 = .ok (.iconst 0, 1) := by decide +kernel
theorem d_La_get_23 : decode b_La_get 23 = .ok (.ireturn, 1) := by decide +kernel
theorem d_La_copy_0 : decode b_La_copy 0 = .ok (.aload_n 0, 1) := by decide +kernel
theorem d_La_copy_1 : decode b_La_copy 1 = .ok (.iload_n 1, 1) := by decide +kernel
theorem d_La_copy_2 : decode b_La_copy 2 = .ok (.iload_n 2, 1) := by decide +kernel
theorem d_La_copy_3 : decode b_La_copy 3 = .ok (.invokevirtual 28, 3) := by decide +kernel
theorem d_La_copy_6 : decode b_La_copy 6 = .ok (.goto 6, 3) := by decide +kernel
theorem d_La_copy_9 : decode b_La_copy 9 = .ok (.astore_n 3, 1) := by decide +kernel
theorem d_La_copy_10 : decode b_La_copy 10 = .ok (.iconst 1, 1) := by decide +kernel
theorem d_La_copy_11 : decode b_La_copy 11 = .ok (.ireturn, 1) := by decide +kernel
theorem d_La_copy_12 : decode b_La_copy 12 = .ok (.iconst 0, 1) := by decide +kernel
theorem d_La_copy_13 : decode b_La_copy 13 = .ok (.ireturn, 1) := by decide +kernel
theorem d_La_clear_0 : decode b_La_clear 0 = .ok (.aload_n 2, 1) := by decide +kernel
theorem d_La_clear_1 : decode b_La_clear 1 = .ok (.iconst 0, 1) := by decide +kernel
theorem d_La_clear_2 : decode b_La_clear 2 = .ok (.aload_n 0, 1) := by decide +kernel
theorem d_La_clear_3 : decode b_La_clear 3 = .ok (.iload_n 1, 1) := by decide +kernel
theorem d_La_clear_4 : decode b_La_clear 4 = .ok (.invokevirtual 32, 3) := by decide +kernel
theorem d_La_clear_7 : decode b_La_clear 7 = .ok (.ifCond .eq 7, 3) := by decide +kernel
theorem d_La_clear_10 : decode b_La_clear 10 = .ok (.lconst 1, 1) := by decide +kernel
theorem d_La_clear_11 : decode b_La_clear 11 = .ok (.goto 4, 3) := by decide +kernel
theorem d_La_clear_14 : decode b_La_clear 14 = .ok (.lconst 0, 1) := by decide +kernel
theorem d_La_clear_15 : decode b_La_clear 15 = .ok (.lastore, 1) := by decide +kernel
theorem d_La_clear_16 : decode b_La_clear 16 = .ok (.goto 6, 3) := by decide +kernel
theorem d_La_clear_19 : decode b_La_clear 19 = .ok (.astore_n 3, 1) := by decide +kernel
theorem d_La_clear_20 : decode b_La_clear 20 = .ok (.iconst 1, 1) := by decide +kernel
theorem d_La_clear_21 : decode b_La_clear 21 = .ok (.ireturn, 1) := by decide +kernel
theorem d_La_clear_22 : decode b_La_clear 22 = .ok (.iconst 0, 1) := by decide +kernel
theorem d_La_clear_23 : decode b_La_clear 23 = .ok (.ireturn, 1) := by decide +kernel
theorem d_La_write_0 : decode b_La_write 0 = .ok (.aload_n 3, 1) := by decide +kernel
theorem d_La_write_1 : decode b_La_write 1 = .ok (.iconst 0, 1) := by decide +kernel
theorem d_La_write_2 : decode b_La_write 2 = .ok (.aload_n 0, 1) := by decide +kernel
theorem d_La_write_3 : decode b_La_write 3 = .ok (.iload_n 1, 1) := by decide +kernel
theorem d_La_write_4 : decode b_La_write 4 = .ok (.iload_n 2, 1) := by decide +kernel
theorem d_La_write_5 : decode b_La_write 5 = .ok (.invokevirtual 36, 3) := by decide +kernel
theorem d_La_write_8 : decode b_La_write 8 = .ok (.i2l, 1) := by decide +kernel
theorem d_La_write_9 : decode b_La_write 9 = .ok (.lastore, 1) := by decide +kernel
theorem d_La_write_10 : decode b_La_write 10 = .ok (.goto 11, 3) := by decide +kernel
theorem d_La_write_13 : decode b_La_write 13 = .ok (.astore 4, 2) := by decide +kernel
theorem d_La_write_15 : decode b_La_write 15 = .ok (.iconst 1, 1) := by decide +kernel
theorem d_La_write_16 : decode b_La_write 16 = .ok (.ireturn, 1) := by decide +kernel
theorem d_La_write_17 : decode b_La_write 17 = .ok (.astore 4, 2) := by decide +kernel
theorem d_La_write_19 : decode b_La_write 19 = .ok (.iconst 2, 1) := by decide +kernel
theorem d_La_write_20 : decode b_La_write 20 = .ok (.ireturn, 1) := by decide +kernel
theorem d_La_write_21 : decode b_La_write 21 = .ok (.iconst 0, 1) := by decide +kernel
theorem d_La_write_22 : decode b_La_write 22 = .ok (.ireturn, 1) := by decide +kernel
theorem d_La_watch_0 : decode b_La_watch 0 = .ok (.aload_n 0, 1) := by decide +kernel
theorem d_La_watch_1 : decode b_La_watch 1 = .ok (.iload_n 1, 1) := by decide +kernel
theorem d_La_watch_2 : decode b_La_watch 2 = .ok (.iload_n 2, 1) := by decide +kernel
theorem d_La_watch_3 : decode b_La_watch 3 = .ok (.invokevirtual 40, 3) := by decide +kernel
theorem d_La_watch_6 : decode b_La_watch 6 = .ok (.goto 6, 3) := by decide +kernel
theorem d_La_watch_9 : decode b_La_watch 9 = .ok (.astore_n 3, 1) := by decide +kernel
theorem d_La_watch_10 : decode b_La_watch 10 = .ok (.iconst 1, 1) := by decide +kernel
theorem d_La_watch_11 : decode b_La_watch 11 = .ok (.ireturn, 1) := by decide +kernel
theorem d_La_watch_12 : decode b_La_watch 12 = .ok (.iconst 0, 1) := by decide +kernel
theorem d_La_watch_13 : decode b_La_watch 13 = .ok (.ireturn, 1) := by decide +kernel
theorem d_La_revive_0 : decode b_La_revive 0 = .ok (.aload_n 0, 1) := by decide +kernel
theorem d_La_revive_1 : decode b_La_revive 1 = .ok (.iload_n 1, 1) := by decide +kernel
theorem d_La_revive_2 : decode b_La_revive 2 = .ok (.iload_n 2, 1) := by decide +kernel
theorem d_La_revive_3 : decode b_La_revive 3 = .ok (.invokevirtual 43, 3) := by decide +kernel
theorem d_La_revive_6 : decode b_La_revive 6 = .ok (.goto 6, 3) := by decide +kernel
theorem d_La_revive_9 : decode b_La_revive 9 = .ok (.astore_n 3, 1) := by decide +kernel
theorem d_La_revive_10 : decode b_La_revive 10 = .ok (.iconst 1, 1) := by decide +kernel
theorem d_La_revive_11 : decode b_La_revive 11 = .ok (.ireturn, 1) := by decide +kernel
theorem d_La_revive_12 : decode b_La_revive 12 = .ok (.iconst 0, 1) := by decide +kernel
theorem d_La_revive_13 : decode b_La_revive 13 = .ok (.ireturn, 1) := by decide +kernel
theorem d_La_watched_0 : decode b_La_watched 0 = .ok (.aload_n 2, 1) := by decide +kernel
theorem d_La_watched_1 : decode b_La_watched 1 = .ok (.iconst 0, 1) := by decide +kernel
theorem d_La_watched_2 : decode b_La_watched 2 = .ok (.aload_n 0, 1) := by decide +kernel
theorem d_La_watched_3 : decode b_La_watched 3 = .ok (.iload_n 1, 1) := by decide +kernel
theorem d_La_watched_4 : decode b_La_watched 4 = .ok (.invokevirtual 46, 3) := by decide +kernel
theorem d_La_watched_7 : decode b_La_watched 7 = .ok (.i2l, 1) := by decide +kernel
theorem d_La_watched_8 : decode b_La_watched 8 = .ok (.lastore, 1) := by decide +kernel
theorem d_La_watched_9 : decode b_La_watched 9 = .ok (.goto 6, 3) := by decide +kernel
theorem d_La_watched_12 : decode b_La_watched 12 = .ok (.astore_n 3, 1) := by decide +kernel
theorem d_La_watched_13 : decode b_La_watched 13 = .ok (.iconst 1, 1) := by decide +kernel
theorem d_La_watched_14 : decode b_La_watched 14 = .ok (.ireturn, 1) := by decide +kernel
theorem d_La_watched_15 : decode b_La_watched 15 = .ok (.iconst 0, 1) := by decide +kernel
theorem d_La_watched_16 : decode b_La_watched 16 = .ok (.ireturn, 1) := by decide +kernel
theorem d_La_about_0 : decode b_La_about 0 = .ok (.aload_n 3, 1) := by decide +kernel
theorem d_La_about_1 : decode b_La_about 1 = .ok (.iconst 0, 1) := by decide +kernel
theorem d_La_about_2 : decode b_La_about 2 = .ok (.aload_n 0, 1) := by decide +kernel
theorem d_La_about_3 : decode b_La_about 3 = .ok (.iload_n 1, 1) := by decide +kernel
theorem d_La_about_4 : decode b_La_about 4 = .ok (.iload_n 2, 1) := by decide +kernel
theorem d_La_about_5 : decode b_La_about 5 = .ok (.invokevirtual 50, 3) := by decide +kernel
theorem d_La_about_8 : decode b_La_about 8 = .ok (.i2l, 1) := by decide +kernel
theorem d_La_about_9 : decode b_La_about 9 = .ok (.lastore, 1) := by decide +kernel
theorem d_La_about_10 : decode b_La_about 10 = .ok (.goto 11, 3) := by decide +kernel
theorem d_La_about_13 : decode b_La_about 13 = .ok (.astore 4, 2) := by decide +kernel
theorem d_La_about_15 : decode b_La_about 15 = .ok (.iconst 1, 1) := by decide +kernel
theorem d_La_about_16 : decode b_La_about 16 = .ok (.ireturn, 1) := by decide +kernel
theorem d_La_about_17 : decode b_La_about 17 = .ok (.astore 4, 2) := by decide +kernel
theorem d_La_about_19 : decode b_La_about 19 = .ok (.iconst 2, 1) := by decide +kernel
theorem d_La_about_20 : decode b_La_about 20 = .ok (.ireturn, 1) := by decide +kernel
theorem d_La_about_21 : decode b_La_about 21 = .ok (.iconst 0, 1) := by decide +kernel
theorem d_La_about_22 : decode b_La_about 22 = .ok (.ireturn, 1) := by decide +kernel
theorem d_La_field_0 : decode b_La_field 0 = .ok (.aload_n 3, 1) := by decide +kernel
theorem d_La_field_1 : decode b_La_field 1 = .ok (.iconst 0, 1) := by decide +kernel
theorem d_La_field_2 : decode b_La_field 2 = .ok (.aload_n 0, 1) := by decide +kernel
theorem d_La_field_3 : decode b_La_field 3 = .ok (.iload_n 1, 1) := by decide +kernel
theorem d_La_field_4 : decode b_La_field 4 = .ok (.iload_n 2, 1) := by decide +kernel
theorem d_La_field_5 : decode b_La_field 5 = .ok (.invokevirtual 53, 3) := by decide +kernel
theorem d_La_field_8 : decode b_La_field 8 = .ok (.i2l, 1) := by decide +kernel
theorem d_La_field_9 : decode b_La_field 9 = .ok (.lastore, 1) := by decide +kernel
theorem d_La_field_10 : decode b_La_field 10 = .ok (.goto 15, 3) := by decide +kernel
theorem d_La_field_13 : decode b_La_field 13 = .ok (.astore 4, 2) := by decide +kernel
theorem d_La_field_15 : decode b_La_field 15 = .ok (.iconst 1, 1) := by decide +kernel
theorem d_La_field_16 : decode b_La_field 16 = .ok (.ireturn, 1) := by decide +kernel
theorem d_La_field_17 : decode b_La_field 17 = .ok (.astore 4, 2) := by decide +kernel
theorem d_La_field_19 : decode b_La_field 19 = .ok (.iconst 2, 1) := by decide +kernel
theorem d_La_field_20 : decode b_La_field 20 = .ok (.ireturn, 1) := by decide +kernel
theorem d_La_field_21 : decode b_La_field 21 = .ok (.astore 4, 2) := by decide +kernel
theorem d_La_field_23 : decode b_La_field 23 = .ok (.iconst 3, 1) := by decide +kernel
theorem d_La_field_24 : decode b_La_field 24 = .ok (.ireturn, 1) := by decide +kernel
theorem d_La_field_25 : decode b_La_field 25 = .ok (.iconst 0, 1) := by decide +kernel
theorem d_La_field_26 : decode b_La_field 26 = .ok (.ireturn, 1) := by decide +kernel
theorem d_La_same_0 : decode b_La_same 0 = .ok (.aload_n 3, 1) := by decide +kernel
theorem d_La_same_1 : decode b_La_same 1 = .ok (.iconst 0, 1) := by decide +kernel
theorem d_La_same_2 : decode b_La_same 2 = .ok (.aload_n 0, 1) := by decide +kernel
theorem d_La_same_3 : decode b_La_same 3 = .ok (.iload_n 1, 1) := by decide +kernel
theorem d_La_same_4 : decode b_La_same 4 = .ok (.iload_n 2, 1) := by decide +kernel
theorem d_La_same_5 : decode b_La_same 5 = .ok (.invokevirtual 56, 3) := by decide +kernel
theorem d_La_same_8 : decode b_La_same 8 = .ok (.ifCond .eq 7, 3) := by decide +kernel
theorem d_La_same_11 : decode b_La_same 11 = .ok (.lconst 1, 1) := by decide +kernel
theorem d_La_same_12 : decode b_La_same 12 = .ok (.goto 4, 3) := by decide +kernel
theorem d_La_same_15 : decode b_La_same 15 = .ok (.lconst 0, 1) := by decide +kernel
theorem d_La_same_16 : decode b_La_same 16 = .ok (.lastore, 1) := by decide +kernel
theorem d_La_same_17 : decode b_La_same 17 = .ok (.goto 7, 3) := by decide +kernel
theorem d_La_same_20 : decode b_La_same 20 = .ok (.astore 4, 2) := by decide +kernel
theorem d_La_same_22 : decode b_La_same 22 = .ok (.iconst 1, 1) := by decide +kernel
theorem d_La_same_23 : decode b_La_same 23 = .ok (.ireturn, 1) := by decide +kernel
theorem d_La_same_24 : decode b_La_same 24 = .ok (.iconst 0, 1) := by decide +kernel
theorem d_La_same_25 : decode b_La_same 25 = .ok (.ireturn, 1) := by decide +kernel
theorem d_La_reach_0 : decode b_La_reach 0 = .ok (.aload_n 2, 1) := by decide +kernel
theorem d_La_reach_1 : decode b_La_reach 1 = .ok (.iconst 0, 1) := by decide +kernel
theorem d_La_reach_2 : decode b_La_reach 2 = .ok (.aload_n 0, 1) := by decide +kernel
theorem d_La_reach_3 : decode b_La_reach 3 = .ok (.iload_n 1, 1) := by decide +kernel
theorem d_La_reach_4 : decode b_La_reach 4 = .ok (.invokevirtual 60, 3) := by decide +kernel
theorem d_La_reach_7 : decode b_La_reach 7 = .ok (.i2l, 1) := by decide +kernel
theorem d_La_reach_8 : decode b_La_reach 8 = .ok (.lastore, 1) := by decide +kernel
theorem d_La_reach_9 : decode b_La_reach 9 = .ok (.goto 6, 3) := by decide +kernel
theorem d_La_reach_12 : decode b_La_reach 12 = .ok (.astore_n 3, 1) := by decide +kernel
theorem d_La_reach_13 : decode b_La_reach 13 = .ok (.iconst 1, 1) := by decide +kernel
theorem d_La_reach_14 : decode b_La_reach 14 = .ok (.ireturn, 1) := by decide +kernel
theorem d_La_reach_15 : decode b_La_reach 15 = .ok (.iconst 0, 1) := by decide +kernel
theorem d_La_reach_16 : decode b_La_reach 16 = .ok (.ireturn, 1) := by decide +kernel
theorem d_La_collect_0 : decode b_La_collect 0 = .ok (.aload_n 3, 1) := by decide +kernel
theorem d_La_collect_1 : decode b_La_collect 1 = .ok (.iconst 0, 1) := by decide +kernel
theorem d_La_collect_2 : decode b_La_collect 2 = .ok (.aload_n 0, 1) := by decide +kernel
theorem d_La_collect_3 : decode b_La_collect 3 = .ok (.iload_n 1, 1) := by decide +kernel
theorem d_La_collect_4 : decode b_La_collect 4 = .ok (.iload_n 2, 1) := by decide +kernel
theorem d_La_collect_5 : decode b_La_collect 5 = .ok (.invokevirtual 63, 3) := by decide +kernel
theorem d_La_collect_8 : decode b_La_collect 8 = .ok (.i2l, 1) := by decide +kernel
theorem d_La_collect_9 : decode b_La_collect 9 = .ok (.lastore, 1) := by decide +kernel
theorem d_La_collect_10 : decode b_La_collect 10 = .ok (.goto 7, 3) := by decide +kernel
theorem d_La_collect_13 : decode b_La_collect 13 = .ok (.astore 4, 2) := by decide +kernel
theorem d_La_collect_15 : decode b_La_collect 15 = .ok (.iconst 1, 1) := by decide +kernel
theorem d_La_collect_16 : decode b_La_collect 16 = .ok (.ireturn, 1) := by decide +kernel
theorem d_La_collect_17 : decode b_La_collect 17 = .ok (.iconst 0, 1) := by decide +kernel
theorem d_La_collect_18 : decode b_La_collect 18 = .ok (.ireturn, 1) := by decide +kernel
theorem d_La_figure_0 : decode b_La_figure 0 = .ok (.aload_n 2, 1) := by decide +kernel
theorem d_La_figure_1 : decode b_La_figure 1 = .ok (.iconst 0, 1) := by decide +kernel
theorem d_La_figure_2 : decode b_La_figure 2 = .ok (.aload_n 0, 1) := by decide +kernel
theorem d_La_figure_3 : decode b_La_figure 3 = .ok (.iload_n 1, 1) := by decide +kernel
theorem d_La_figure_4 : decode b_La_figure 4 = .ok (.invokevirtual 66, 3) := by decide +kernel
theorem d_La_figure_7 : decode b_La_figure 7 = .ok (.i2l, 1) := by decide +kernel
theorem d_La_figure_8 : decode b_La_figure 8 = .ok (.lastore, 1) := by decide +kernel
theorem d_La_figure_9 : decode b_La_figure 9 = .ok (.goto 6, 3) := by decide +kernel
theorem d_La_figure_12 : decode b_La_figure 12 = .ok (.astore_n 3, 1) := by decide +kernel
theorem d_La_figure_13 : decode b_La_figure 13 = .ok (.iconst 1, 1) := by decide +kernel
theorem d_La_figure_14 : decode b_La_figure 14 = .ok (.ireturn, 1) := by decide +kernel
theorem d_La_figure_15 : decode b_La_figure 15 = .ok (.iconst 0, 1) := by decide +kernel
theorem d_La_figure_16 : decode b_La_figure 16 = .ok (.ireturn, 1) := by decide +kernel
