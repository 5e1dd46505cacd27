theorem d_Yd_init_0 : decode b_Yd_init 0 = .ok (.aload_n 0, 1) := by decide +kernel
theorem d_Yd_init_1 : decode b_Yd_init 1 = .ok (.invokespecial 3, 3) := by decide +kernel
theorem d_Yd_init_4 : decode b_Yd_init 4 = .ok (.aload_n 0, 1) := by decide +kernel
theorem d_Yd_init_5 : decode b_Yd_init 5 = .ok (.bipush 8, 2) := by decide +kernel
theorem d_Yd_init_7 : decode b_Yd_init 7 = .ok (.newarray .int, 2) := by decide +kernel
theorem d_Yd_init_9 : decode b_Yd_init 9 = .ok (.putfield 9, 3) := by decide +kernel
theorem d_Yd_init_12 : decode b_Yd_init 12 = .ok (.aload_n 0, 1) := by decide +kernel
theorem d_Yd_init_13 : decode b_Yd_init 13 = .ok (.iconst 4, 1) := by decide +kernel
theorem d_Yd_init_14 : decode b_Yd_init 14 = .ok (.newarray .int, 2) := by decide +kernel
theorem d_Yd_init_16 : decode b_Yd_init 16 = .ok (.putfield 13, 3) := by decide +kernel
theorem d_Yd_init_19 : decode b_Yd_init 19 = .ok (.aload_n 0, 1) := by decide +kernel
theorem d_Yd_init_20 : decode b_Yd_init 20 = .ok (.new 16, 3) := by decide +kernel
theorem d_Yd_init_23 : decode b_Yd_init 23 = .ok (.dup, 1) := by decide +kernel
theorem d_Yd_init_24 : decode b_Yd_init 24 = .ok (.invokespecial 18, 3) := by decide +kernel
theorem d_Yd_init_27 : decode b_Yd_init 27 = .ok (.putfield 19, 3) := by decide +kernel
theorem d_Yd_init_30 : decode b_Yd_init 30 = .ok (.aload_n 0, 1) := by decide +kernel
theorem d_Yd_init_31 : decode b_Yd_init 31 = .ok (.new 23, 3) := by decide +kernel
theorem d_Yd_init_34 : decode b_Yd_init 34 = .ok (.dup, 1) := by decide +kernel
theorem d_Yd_init_35 : decode b_Yd_init 35 = .ok (.invokespecial 25, 3) := by decide +kernel
theorem d_Yd_init_38 : decode b_Yd_init 38 = .ok (.putfield 26, 3) := by decide +kernel
theorem d_Yd_init_41 : decode b_Yd_init 41 = .ok (.aload_n 0, 1) := by decide +kernel
theorem d_Yd_init_42 : decode b_Yd_init 42 = .ok (.new 30, 3) := by decide +kernel
theorem d_Yd_init_45 : decode b_Yd_init 45 = .ok (.dup, 1) := by decide +kernel
theorem d_Yd_init_46 : decode b_Yd_init 46 = .ok (.invokespecial 32, 3) := by decide +kernel
theorem d_Yd_init_49 : decode b_Yd_init 49 = .ok (.putfield 33, 3) := by decide +kernel
theorem d_Yd_init_52 : decode b_Yd_init 52 = .ok (.aload_n 0, 1) := by decide +kernel
theorem d_Yd_init_53 : decode b_Yd_init 53 = .ok (.new 30, 3) := by decide +kernel
theorem d_Yd_init_56 : decode b_Yd_init 56 = .ok (.dup, 1) := by decide +kernel
theorem d_Yd_init_57 : decode b_Yd_init 57 = .ok (.invokespecial 32, 3) := by decide +kernel
theorem d_Yd_init_60 : decode b_Yd_init 60 = .ok (.putfield 37, 3) := by decide +kernel
theorem d_Yd_init_63 : decode b_Yd_init 63 = .ok (.aload_n 0, 1) := by decide +kernel
theorem d_Yd_init_64 : decode b_Yd_init 64 = .ok (.getfield 9, 3) := by decide +kernel
theorem d_Yd_init_67 : decode b_Yd_init 67 = .ok (.iconst (-1), 1) := by decide +kernel
theorem d_Yd_init_68 : decode b_Yd_init 68 = .ok (.invokestatic 40, 3) := by decide +kernel
theorem d_Yd_init_71 : decode b_Yd_init 71 = .ok (.aload_n 0, 1) := by decide +kernel
theorem d_Yd_init_72 : decode b_Yd_init 72 = .ok (.getfield 13, 3) := by decide +kernel
theorem d_Yd_init_75 : decode b_Yd_init 75 = .ok (.iconst (-1), 1) := by decide +kernel
theorem d_Yd_init_76 : decode b_Yd_init 76 = .ok (.invokestatic 40, 3) := by decide +kernel
theorem d_Yd_init_79 : decode b_Yd_init 79 = .ok (.return_, 1) := by decide +kernel
theorem d_Yd_make_0 : decode b_Yd_make 0 = .ok (.iload_n 1, 1) := by decide +kernel
theorem d_Yd_make_1 : decode b_Yd_make 1 = .ok (.invokestatic 46, 3) := by decide +kernel
theorem d_Yd_make_4 : decode b_Yd_make 4 = .ok (.iload_n 2, 1) := by decide +kernel
theorem d_Yd_make_5 : decode b_Yd_make 5 = .ok (.ifCond .lt 8, 3) := by decide +kernel
theorem d_Yd_make_8 : decode b_Yd_make 8 = .ok (.iload_n 2, 1) := by decide +kernel
theorem d_Yd_make_9 : decode b_Yd_make 9 = .ok (.iconst 4, 1) := by decide +kernel
theorem d_Yd_make_10 : decode b_Yd_make 10 = .ok (.if_icmp .le 13, 3) := by decide +kernel
theorem d_Yd_make_13 : decode b_Yd_make 13 = .ok (.new 50, 3) := by decide +kernel
theorem d_Yd_make_16 : decode b_Yd_make 16 = .ok (.dup, 1) := by decide +kernel
theorem d_Yd_make_17 : decode b_Yd_make 17 = .ok (.ldc 52, 2) := by decide +kernel
theorem d_Yd_make_19 : decode b_Yd_make 19 = .ok (.invokespecial 54, 3) := by decide +kernel
theorem d_Yd_make_22 : decode b_Yd_make 22 = .ok (.athrow, 1) := by decide +kernel
theorem d_Yd_make_23 : decode b_Yd_make 23 = .ok (.aload_n 0, 1) := by decide +kernel
theorem d_Yd_make_24 : decode b_Yd_make 24 = .ok (.getfield 33, 3) := by decide +kernel
theorem d_Yd_make_27 : decode b_Yd_make 27 = .ok (.iload_n 2, 1) := by decide +kernel
theorem d_Yd_make_28 : decode b_Yd_make 28 = .ok (.invokevirtual 57, 3) := by decide +kernel
theorem d_Yd_make_31 : decode b_Yd_make 31 = .ok (.ifCond .ne 13, 3) := by decide +kernel
theorem d_Yd_make_34 : decode b_Yd_make 34 = .ok (.new 61, 3) := by decide +kernel
theorem d_Yd_make_37 : decode b_Yd_make 37 = .ok (.dup, 1) := by decide +kernel
theorem d_Yd_make_38 : decode b_Yd_make 38 = .ok (.ldc 63, 2) := by decide +kernel
theorem d_Yd_make_40 : decode b_Yd_make 40 = .ok (.invokespecial 65, 3) := by decide +kernel
theorem d_Yd_make_43 : decode b_Yd_make 43 = .ok (.athrow, 1) := by decide +kernel
theorem d_Yd_make_44 : decode b_Yd_make 44 = .ok (.aload_n 0, 1) := by decide +kernel
theorem d_Yd_make_45 : decode b_Yd_make 45 = .ok (.getfield 66, 3) := by decide +kernel
theorem d_Yd_make_48 : decode b_Yd_make 48 = .ok (.istore 4, 2) := by decide +kernel
theorem d_Yd_make_50 : decode b_Yd_make 50 = .ok (.aload_n 0, 1) := by decide +kernel
theorem d_Yd_make_51 : decode b_Yd_make 51 = .ok (.getfield 9, 3) := by decide +kernel
theorem d_Yd_make_54 : decode b_Yd_make 54 = .ok (.iload_n 1, 1) := by decide +kernel
theorem d_Yd_make_55 : decode b_Yd_make 55 = .ok (.aload_n 0, 1) := by decide +kernel
theorem d_Yd_make_56 : decode b_Yd_make 56 = .ok (.getfield 33, 3) := by decide +kernel
theorem d_Yd_make_59 : decode b_Yd_make 59 = .ok (.iload 4, 2) := by decide +kernel
theorem d_Yd_make_61 : decode b_Yd_make 61 = .ok (.iload_n 2, 1) := by decide +kernel
theorem d_Yd_make_62 : decode b_Yd_make 62 = .ok (.iload_n 3, 1) := by decide +kernel
theorem d_Yd_make_63 : decode b_Yd_make 63 = .ok (.invokevirtual 70, 3) := by decide +kernel
theorem d_Yd_make_66 : decode b_Yd_make 66 = .ok (.iastore, 1) := by decide +kernel
theorem d_Yd_make_67 : decode b_Yd_make 67 = .ok (.aload_n 0, 1) := by decide +kernel
theorem d_Yd_make_68 : decode b_Yd_make 68 = .ok (.dup, 1) := by decide +kernel
theorem d_Yd_make_69 : decode b_Yd_make 69 = .ok (.getfield 66, 3) := by decide +kernel
theorem d_Yd_make_72 : decode b_Yd_make 72 = .ok (.iconst 1, 1) := by decide +kernel
theorem d_Yd_make_73 : decode b_Yd_make 73 = .ok (.iadd, 1) := by decide +kernel
theorem d_Yd_make_74 : decode b_Yd_make 74 = .ok (.putfield 66, 3) := by decide +kernel
theorem d_Yd_make_77 : decode b_Yd_make 77 = .ok (.iload 4, 2) := by decide +kernel
theorem d_Yd_make_79 : decode b_Yd_make 79 = .ok (.ireturn, 1) := by decide +kernel
theorem d_Yd_checkRegister_0 : decode b_Yd_checkRegister 0 = .ok (.iload_n 0, 1) := by decide +kernel
theorem d_Yd_checkRegister_1 : decode b_Yd_checkRegister 1 = .ok (.ifCond .lt 9, 3) := by decide +kernel
theorem d_Yd_checkRegister_4 : decode b_Yd_checkRegister 4 = .ok (.iload_n 0, 1) := by decide +kernel
theorem d_Yd_checkRegister_5 : decode b_Yd_checkRegister 5 = .ok (.bipush 8, 2) := by decide +kernel
theorem d_Yd_checkRegister_7 : decode b_Yd_checkRegister 7 = .ok (.if_icmp .lt 13, 3) := by decide +kernel
theorem d_Yd_checkRegister_10 : decode b_Yd_checkRegister 10 = .ok (.new 50, 3) := by decide +kernel
theorem d_Yd_checkRegister_13 : decode b_Yd_checkRegister 13 = .ok (.dup, 1) := by decide +kernel
theorem d_Yd_checkRegister_14 : decode b_Yd_checkRegister 14 = .ok (.ldc 149, 2) := by decide +kernel
theorem d_Yd_checkRegister_16 : decode b_Yd_checkRegister 16 = .ok (.invokespecial 54, 3) := by decide +kernel
theorem d_Yd_checkRegister_19 : decode b_Yd_checkRegister 19 = .ok (.athrow, 1) := by decide +kernel
theorem d_Yd_checkRegister_20 : decode b_Yd_checkRegister 20 = .ok (.return_, 1) := by decide +kernel
theorem d_Yd_set_0 : decode b_Yd_set 0 = .ok (.iload_n 1, 1) := by decide +kernel
theorem d_Yd_set_1 : decode b_Yd_set 1 = .ok (.invokestatic 46, 3) := by decide +kernel
theorem d_Yd_set_4 : decode b_Yd_set 4 = .ok (.iload_n 3, 1) := by decide +kernel
theorem d_Yd_set_5 : decode b_Yd_set 5 = .ok (.invokestatic 46, 3) := by decide +kernel
theorem d_Yd_set_8 : decode b_Yd_set 8 = .ok (.aload_n 0, 1) := by decide +kernel
theorem d_Yd_set_9 : decode b_Yd_set 9 = .ok (.iload_n 1, 1) := by decide +kernel
theorem d_Yd_set_10 : decode b_Yd_set 10 = .ok (.invokevirtual 74, 3) := by decide +kernel
theorem d_Yd_set_13 : decode b_Yd_set 13 = .ok (.istore 4, 2) := by decide +kernel
theorem d_Yd_set_15 : decode b_Yd_set 15 = .ok (.aload_n 0, 1) := by decide +kernel
theorem d_Yd_set_16 : decode b_Yd_set 16 = .ok (.iload 4, 2) := by decide +kernel
theorem d_Yd_set_18 : decode b_Yd_set 18 = .ok (.iload_n 2, 1) := by decide +kernel
theorem d_Yd_set_19 : decode b_Yd_set 19 = .ok (.invokevirtual 78, 3) := by decide +kernel
theorem d_Yd_set_22 : decode b_Yd_set 22 = .ok (.aload_n 0, 1) := by decide +kernel
theorem d_Yd_set_23 : decode b_Yd_set 23 = .ok (.getfield 33, 3) := by decide +kernel
theorem d_Yd_set_26 : decode b_Yd_set 26 = .ok (.iload 4, 2) := by decide +kernel
theorem d_Yd_set_28 : decode b_Yd_set 28 = .ok (.iload_n 2, 1) := by decide +kernel
theorem d_Yd_set_29 : decode b_Yd_set 29 = .ok (.aload_n 0, 1) := by decide +kernel
theorem d_Yd_set_30 : decode b_Yd_set 30 = .ok (.getfield 9, 3) := by decide +kernel
theorem d_Yd_set_33 : decode b_Yd_set 33 = .ok (.iload_n 3, 1) := by decide +kernel
theorem d_Yd_set_34 : decode b_Yd_set 34 = .ok (.iaload, 1) := by decide +kernel
theorem d_Yd_set_35 : decode b_Yd_set 35 = .ok (.invokevirtual 82, 3) := by decide +kernel
theorem d_Yd_set_38 : decode b_Yd_set 38 = .ok (.return_, 1) := by decide +kernel
theorem d_Yd_objectOf_0 : decode b_Yd_objectOf 0 = .ok (.aload_n 0, 1) := by decide +kernel
theorem d_Yd_objectOf_1 : decode b_Yd_objectOf 1 = .ok (.getfield 9, 3) := by decide +kernel
theorem d_Yd_objectOf_4 : decode b_Yd_objectOf 4 = .ok (.iload_n 1, 1) := by decide +kernel
theorem d_Yd_objectOf_5 : decode b_Yd_objectOf 5 = .ok (.iaload, 1) := by decide +kernel
theorem d_Yd_objectOf_6 : decode b_Yd_objectOf 6 = .ok (.istore_n 2, 1) := by decide +kernel
theorem d_Yd_objectOf_7 : decode b_Yd_objectOf 7 = .ok (.iload_n 2, 1) := by decide +kernel
theorem d_Yd_objectOf_8 : decode b_Yd_objectOf 8 = .ok (.iconst (-1), 1) := by decide +kernel
theorem d_Yd_objectOf_9 : decode b_Yd_objectOf 9 = .ok (.if_icmp .ne 13, 3) := by decide +kernel
theorem d_Yd_objectOf_12 : decode b_Yd_objectOf 12 = .ok (.new 158, 3) := by decide +kernel
theorem d_Yd_objectOf_15 : decode b_Yd_objectOf 15 = .ok (.dup, 1) := by decide +kernel
theorem d_Yd_objectOf_16 : decode b_Yd_objectOf 16 = .ok (.ldc 160, 2) := by decide +kernel
theorem d_Yd_objectOf_18 : decode b_Yd_objectOf 18 = .ok (.invokespecial 162, 3) := by decide +kernel
theorem d_Yd_objectOf_21 : decode b_Yd_objectOf 21 = .ok (.athrow, 1) := by decide +kernel
theorem d_Yd_objectOf_22 : decode b_Yd_objectOf 22 = .ok (.iload_n 2, 1) := by decide +kernel
theorem d_Yd_objectOf_23 : decode b_Yd_objectOf 23 = .ok (.ireturn, 1) := by decide +kernel
theorem d_Yd_checkField_0 : decode b_Yd_checkField 0 = .ok (.iload_n 2, 1) := by decide +kernel
theorem d_Yd_checkField_1 : decode b_Yd_checkField 1 = .ok (.ifCond .lt 15, 3) := by decide +kernel
theorem d_Yd_checkField_4 : decode b_Yd_checkField 4 = .ok (.iload_n 2, 1) := by decide +kernel
theorem d_Yd_checkField_5 : decode b_Yd_checkField 5 = .ok (.aload_n 0, 1) := by decide +kernel
theorem d_Yd_checkField_6 : decode b_Yd_checkField 6 = .ok (.getfield 33, 3) := by decide +kernel
theorem d_Yd_checkField_9 : decode b_Yd_checkField 9 = .ok (.iload_n 1, 1) := by decide +kernel
theorem d_Yd_checkField_10 : decode b_Yd_checkField 10 = .ok (.invokevirtual 110, 3) := by decide +kernel
theorem d_Yd_checkField_13 : decode b_Yd_checkField 13 = .ok (.if_icmp .lt 13, 3) := by decide +kernel
theorem d_Yd_checkField_16 : decode b_Yd_checkField 16 = .ok (.new 153, 3) := by decide +kernel
theorem d_Yd_checkField_19 : decode b_Yd_checkField 19 = .ok (.dup, 1) := by decide +kernel
theorem d_Yd_checkField_20 : decode b_Yd_checkField 20 = .ok (.ldc 155, 2) := by decide +kernel
theorem d_Yd_checkField_22 : decode b_Yd_checkField 22 = .ok (.invokespecial 157, 3) := by decide +kernel
theorem d_Yd_checkField_25 : decode b_Yd_checkField 25 = .ok (.athrow, 1) := by decide +kernel
theorem d_Yd_checkField_26 : decode b_Yd_checkField 26 = .ok (.return_, 1) := by decide +kernel
theorem d_Yd_get_0 : decode b_Yd_get 0 = .ok (.iload_n 1, 1) := by decide +kernel
theorem d_Yd_get_1 : decode b_Yd_get 1 = .ok (.invokestatic 46, 3) := by decide +kernel
theorem d_Yd_get_4 : decode b_Yd_get 4 = .ok (.iload_n 3, 1) := by decide +kernel
theorem d_Yd_get_5 : decode b_Yd_get 5 = .ok (.invokestatic 46, 3) := by decide +kernel
theorem d_Yd_get_8 : decode b_Yd_get 8 = .ok (.aload_n 0, 1) := by decide +kernel
theorem d_Yd_get_9 : decode b_Yd_get 9 = .ok (.iload_n 1, 1) := by decide +kernel
theorem d_Yd_get_10 : decode b_Yd_get 10 = .ok (.invokevirtual 74, 3) := by decide +kernel
theorem d_Yd_get_13 : decode b_Yd_get 13 = .ok (.istore 4, 2) := by decide +kernel
theorem d_Yd_get_15 : decode b_Yd_get 15 = .ok (.aload_n 0, 1) := by decide +kernel
theorem d_Yd_get_16 : decode b_Yd_get 16 = .ok (.iload 4, 2) := by decide +kernel
theorem d_Yd_get_18 : decode b_Yd_get 18 = .ok (.iload_n 2, 1) := by decide +kernel
theorem d_Yd_get_19 : decode b_Yd_get 19 = .ok (.invokevirtual 78, 3) := by decide +kernel
theorem d_Yd_get_22 : decode b_Yd_get 22 = .ok (.aload_n 0, 1) := by decide +kernel
theorem d_Yd_get_23 : decode b_Yd_get 23 = .ok (.getfield 9, 3) := by decide +kernel
theorem d_Yd_get_26 : decode b_Yd_get 26 = .ok (.iload_n 3, 1) := by decide +kernel
theorem d_Yd_get_27 : decode b_Yd_get 27 = .ok (.aload_n 0, 1) := by decide +kernel
theorem d_Yd_get_28 : decode b_Yd_get 28 = .ok (.getfield 33, 3) := by decide +kernel
theorem d_Yd_get_31 : decode b_Yd_get 31 = .ok (.iload 4, 2) := by decide +kernel
theorem d_Yd_get_33 : decode b_Yd_get 33 = .ok (.iload_n 2, 1) := by decide +kernel
theorem d_Yd_get_34 : decode b_Yd_get 34 = .ok (.invokevirtual 86, 3) := by decide +kernel
theorem d_Yd_get_37 : decode b_Yd_get 37 = .ok (.iastore, 1) := by decide +kernel
theorem d_Yd_get_38 : decode b_Yd_get 38 = .ok (.return_, 1) := by decide +kernel
theorem d_Yd_copy_0 : decode b_Yd_copy 0 = .ok (.iload_n 1, 1) := by decide +kernel
theorem d_Yd_copy_1 : decode b_Yd_copy 1 = .ok (.invokestatic 46, 3) := by decide +kernel
theorem d_Yd_copy_4 : decode b_Yd_copy 4 = .ok (.iload_n 2, 1) := by decide +kernel
theorem d_Yd_copy_5 : decode b_Yd_copy 5 = .ok (.invokestatic 46, 3) := by decide +kernel
theorem d_Yd_copy_8 : decode b_Yd_copy 8 = .ok (.aload_n 0, 1) := by decide +kernel
theorem d_Yd_copy_9 : decode b_Yd_copy 9 = .ok (.getfield 9, 3) := by decide +kernel
theorem d_Yd_copy_12 : decode b_Yd_copy 12 = .ok (.iload_n 2, 1) := by decide +kernel
theorem d_Yd_copy_13 : decode b_Yd_copy 13 = .ok (.aload_n 0, 1) := by decide +kernel
theorem d_Yd_copy_14 : decode b_Yd_copy 14 = .ok (.getfield 9, 3) := by decide +kernel
theorem d_Yd_copy_17 : decode b_Yd_copy 17 = .ok (.iload_n 1, 1) := by decide +kernel
theorem d_Yd_copy_18 : decode b_Yd_copy 18 = .ok (.iaload, 1) := by decide +kernel
theorem d_Yd_copy_19 : decode b_Yd_copy 19 = .ok (.iastore, 1) := by decide +kernel
theorem d_Yd_copy_20 : decode b_Yd_copy 20 = .ok (.return_, 1) := by decide +kernel
theorem d_Yd_clear_0 : decode b_Yd_clear 0 = .ok (.iload_n 1, 1) := by decide +kernel
theorem d_Yd_clear_1 : decode b_Yd_clear 1 = .ok (.invokestatic 46, 3) := by decide +kernel
theorem d_Yd_clear_4 : decode b_Yd_clear 4 = .ok (.aload_n 0, 1) := by decide +kernel
theorem d_Yd_clear_5 : decode b_Yd_clear 5 = .ok (.getfield 9, 3) := by decide +kernel
theorem d_Yd_clear_8 : decode b_Yd_clear 8 = .ok (.iload_n 1, 1) := by decide +kernel
theorem d_Yd_clear_9 : decode b_Yd_clear 9 = .ok (.iaload, 1) := by decide +kernel
theorem d_Yd_clear_10 : decode b_Yd_clear 10 = .ok (.iconst (-1), 1) := by decide +kernel
theorem d_Yd_clear_11 : decode b_Yd_clear 11 = .ok (.if_icmp .eq 7, 3) := by decide +kernel
theorem d_Yd_clear_14 : decode b_Yd_clear 14 = .ok (.iconst 1, 1) := by decide +kernel
theorem d_Yd_clear_15 : decode b_Yd_clear 15 = .ok (.goto 4, 3) := by decide +kernel
theorem d_Yd_clear_18 : decode b_Yd_clear 18 = .ok (.iconst 0, 1) := by decide +kernel
theorem d_Yd_clear_19 : decode b_Yd_clear 19 = .ok (.istore_n 2, 1) := by decide +kernel
theorem d_Yd_clear_20 : decode b_Yd_clear 20 = .ok (.aload_n 0, 1) := by decide +kernel
theorem d_Yd_clear_21 : decode b_Yd_clear 21 = .ok (.getfield 9, 3) := by decide +kernel
theorem d_Yd_clear_24 : decode b_Yd_clear 24 = .ok (.iload_n 1, 1) := by decide +kernel
theorem d_Yd_clear_25 : decode b_Yd_clear 25 = .ok (.iconst (-1), 1) := by decide +kernel
theorem d_Yd_clear_26 : decode b_Yd_clear 26 = .ok (.iastore, 1) := by decide +kernel
theorem d_Yd_clear_27 : decode b_Yd_clear 27 = .ok (.iload_n 2, 1) := by decide +kernel
theorem d_Yd_clear_28 : decode b_Yd_clear 28 = .ok (.ireturn, 1) := by decide +kernel
theorem d_Yd_write_0 : decode b_Yd_write 0 = .ok (.iload_n 1, 1) := by decide +kernel
theorem d_Yd_write_1 : decode b_Yd_write 1 = .ok (.invokestatic 46, 3) := by decide +kernel
theorem d_Yd_write_4 : decode b_Yd_write 4 = .ok (.aload_n 0, 1) := by decide +kernel
theorem d_Yd_write_5 : decode b_Yd_write 5 = .ok (.iload_n 1, 1) := by decide +kernel
theorem d_Yd_write_6 : decode b_Yd_write 6 = .ok (.invokevirtual 74, 3) := by decide +kernel
theorem d_Yd_write_9 : decode b_Yd_write 9 = .ok (.istore_n 3, 1) := by decide +kernel
theorem d_Yd_write_10 : decode b_Yd_write 10 = .ok (.aload_n 0, 1) := by decide +kernel
theorem d_Yd_write_11 : decode b_Yd_write 11 = .ok (.getfield 33, 3) := by decide +kernel
theorem d_Yd_write_14 : decode b_Yd_write 14 = .ok (.iload_n 3, 1) := by decide +kernel
theorem d_Yd_write_15 : decode b_Yd_write 15 = .ok (.invokevirtual 90, 3) := by decide +kernel
theorem d_Yd_write_18 : decode b_Yd_write 18 = .ok (.istore 4, 2) := by decide +kernel
theorem d_Yd_write_20 : decode b_Yd_write 20 = .ok (.aload_n 0, 1) := by decide +kernel
theorem d_Yd_write_21 : decode b_Yd_write 21 = .ok (.getfield 33, 3) := by decide +kernel
theorem d_Yd_write_24 : decode b_Yd_write 24 = .ok (.iload_n 3, 1) := by decide +kernel
theorem d_Yd_write_25 : decode b_Yd_write 25 = .ok (.iload_n 2, 1) := by decide +kernel
theorem d_Yd_write_26 : decode b_Yd_write 26 = .ok (.invokevirtual 93, 3) := by decide +kernel
theorem d_Yd_write_29 : decode b_Yd_write 29 = .ok (.iload 4, 2) := by decide +kernel
theorem d_Yd_write_31 : decode b_Yd_write 31 = .ok (.ireturn, 1) := by decide +kernel
theorem d_Yd_watch_0 : decode b_Yd_watch 0 = .ok (.iload_n 1, 1) := by decide +kernel
theorem d_Yd_watch_1 : decode b_Yd_watch 1 = .ok (.invokestatic 96, 3) := by decide +kernel
theorem d_Yd_watch_4 : decode b_Yd_watch 4 = .ok (.iload_n 2, 1) := by decide +kernel
theorem d_Yd_watch_5 : decode b_Yd_watch 5 = .ok (.invokestatic 46, 3) := by decide +kernel
theorem d_Yd_watch_8 : decode b_Yd_watch 8 = .ok (.aload_n 0, 1) := by decide +kernel
theorem d_Yd_watch_9 : decode b_Yd_watch 9 = .ok (.getfield 13, 3) := by decide +kernel
theorem d_Yd_watch_12 : decode b_Yd_watch 12 = .ok (.iload_n 1, 1) := by decide +kernel
theorem d_Yd_watch_13 : decode b_Yd_watch 13 = .ok (.aload_n 0, 1) := by decide +kernel
theorem d_Yd_watch_14 : decode b_Yd_watch 14 = .ok (.getfield 9, 3) := by decide +kernel
theorem d_Yd_watch_17 : decode b_Yd_watch 17 = .ok (.iload_n 2, 1) := by decide +kernel
theorem d_Yd_watch_18 : decode b_Yd_watch 18 = .ok (.iaload, 1) := by decide +kernel
theorem d_Yd_watch_19 : decode b_Yd_watch 19 = .ok (.iastore, 1) := by decide +kernel
theorem d_Yd_watch_20 : decode b_Yd_watch 20 = .ok (.return_, 1) := by decide +kernel
theorem d_Yd_checkWeakRegister_0 : decode b_Yd_checkWeakRegister 0 = .ok (.iload_n 0, 1) := by decide +kernel
theorem d_Yd_checkWeakRegister_1 : decode b_Yd_checkWeakRegister 1 = .ok (.ifCond .lt 8, 3) := by decide +kernel
theorem d_Yd_checkWeakRegister_4 : decode b_Yd_checkWeakRegister 4 = .ok (.iload_n 0, 1) := by decide +kernel
theorem d_Yd_checkWeakRegister_5 : decode b_Yd_checkWeakRegister 5 = .ok (.iconst 4, 1) := by decide +kernel
theorem d_Yd_checkWeakRegister_6 : decode b_Yd_checkWeakRegister 6 = .ok (.if_icmp .lt 13, 3) := by decide +kernel
theorem d_Yd_checkWeakRegister_9 : decode b_Yd_checkWeakRegister 9 = .ok (.new 50, 3) := by decide +kernel
theorem d_Yd_checkWeakRegister_12 : decode b_Yd_checkWeakRegister 12 = .ok (.dup, 1) := by decide +kernel
theorem d_Yd_checkWeakRegister_13 : decode b_Yd_checkWeakRegister 13 = .ok (.ldc 151, 2) := by decide +kernel
theorem d_Yd_checkWeakRegister_15 : decode b_Yd_checkWeakRegister 15 = .ok (.invokespecial 54, 3) := by decide +kernel
theorem d_Yd_checkWeakRegister_18 : decode b_Yd_checkWeakRegister 18 = .ok (.athrow, 1) := by decide +kernel
theorem d_Yd_checkWeakRegister_19 : decode b_Yd_checkWeakRegister 19 = .ok (.return_, 1) := by decide +kernel
theorem d_Yd_revive_0 : decode b_Yd_revive 0 = .ok (.iload_n 1, 1) := by decide +kernel
theorem d_Yd_revive_1 : decode b_Yd_revive 1 = .ok (.invokestatic 96, 3) := by decide +kernel
theorem d_Yd_revive_4 : decode b_Yd_revive 4 = .ok (.iload_n 2, 1) := by decide +kernel
theorem d_Yd_revive_5 : decode b_Yd_revive 5 = .ok (.invokestatic 46, 3) := by decide +kernel
theorem d_Yd_revive_8 : decode b_Yd_revive 8 = .ok (.aload_n 0, 1) := by decide +kernel
theorem d_Yd_revive_9 : decode b_Yd_revive 9 = .ok (.getfield 9, 3) := by decide +kernel
theorem d_Yd_revive_12 : decode b_Yd_revive 12 = .ok (.iload_n 2, 1) := by decide +kernel
theorem d_Yd_revive_13 : decode b_Yd_revive 13 = .ok (.aload_n 0, 1) := by decide +kernel
theorem d_Yd_revive_14 : decode b_Yd_revive 14 = .ok (.getfield 13, 3) := by decide +kernel
theorem d_Yd_revive_17 : decode b_Yd_revive 17 = .ok (.iload_n 1, 1) := by decide +kernel
theorem d_Yd_revive_18 : decode b_Yd_revive 18 = .ok (.iaload, 1) := by decide +kernel
theorem d_Yd_revive_19 : decode b_Yd_revive 19 = .ok (.iastore, 1) := by decide +kernel
theorem d_Yd_revive_20 : decode b_Yd_revive 20 = .ok (.return_, 1) := by decide +kernel
theorem d_Yd_watched_0 : decode b_Yd_watched 0 = .ok (.iload_n 1, 1) := by decide +kernel
theorem d_Yd_watched_1 : decode b_Yd_watched 1 = .ok (.invokestatic 96, 3) := by decide +kernel
theorem d_Yd_watched_4 : decode b_Yd_watched 4 = .ok (.aload_n 0, 1) := by decide +kernel
theorem d_Yd_watched_5 : decode b_Yd_watched 5 = .ok (.aload_n 0, 1) := by decide +kernel
theorem d_Yd_watched_6 : decode b_Yd_watched 6 = .ok (.getfield 13, 3) := by decide +kernel
theorem d_Yd_watched_9 : decode b_Yd_watched 9 = .ok (.iload_n 1, 1) := by decide +kernel
theorem d_Yd_watched_10 : decode b_Yd_watched 10 = .ok (.iaload, 1) := by decide +kernel
theorem d_Yd_watched_11 : decode b_Yd_watched 11 = .ok (.invokevirtual 99, 3) := by decide +kernel
theorem d_Yd_watched_14 : decode b_Yd_watched 14 = .ok (.ireturn, 1) := by decide +kernel
theorem d_Yd_numberOrNothing_0 : decode b_Yd_numberOrNothing 0 = .ok (.iload_n 1, 1) := by decide +kernel
theorem d_Yd_numberOrNothing_1 : decode b_Yd_numberOrNothing 1 = .ok (.iconst (-1), 1) := by decide +kernel
theorem d_Yd_numberOrNothing_2 : decode b_Yd_numberOrNothing 2 = .ok (.if_icmp .ne 7, 3) := by decide +kernel
theorem d_Yd_numberOrNothing_5 : decode b_Yd_numberOrNothing 5 = .ok (.iconst (-1), 1) := by decide +kernel
theorem d_Yd_numberOrNothing_6 : decode b_Yd_numberOrNothing 6 = .ok (.goto 11, 3) := by decide +kernel
theorem d_Yd_numberOrNothing_9 : decode b_Yd_numberOrNothing 9 = .ok (.aload_n 0, 1) := by decide +kernel
theorem d_Yd_numberOrNothing_10 : decode b_Yd_numberOrNothing 10 = .ok (.getfield 33, 3) := by decide +kernel
theorem d_Yd_numberOrNothing_13 : decode b_Yd_numberOrNothing 13 = .ok (.iload_n 1, 1) := by decide +kernel
theorem d_Yd_numberOrNothing_14 : decode b_Yd_numberOrNothing 14 = .ok (.invokevirtual 104, 3) := by decide +kernel
theorem d_Yd_numberOrNothing_17 : decode b_Yd_numberOrNothing 17 = .ok (.ireturn, 1) := by decide +kernel
theorem d_Yd_about_0 : decode b_Yd_about 0 = .ok (.iload_n 1, 1) := by decide +kernel
theorem d_Yd_about_1 : decode b_Yd_about 1 = .ok (.invokestatic 46, 3) := by decide +kernel
theorem d_Yd_about_4 : decode b_Yd_about 4 = .ok (.iload_n 2, 1) := by decide +kernel
theorem d_Yd_about_5 : decode b_Yd_about 5 = .ok (.ifCond .lt 8, 3) := by decide +kernel
theorem d_Yd_about_8 : decode b_Yd_about 8 = .ok (.iload_n 2, 1) := by decide +kernel
theorem d_Yd_about_9 : decode b_Yd_about 9 = .ok (.iconst 3, 1) := by decide +kernel
theorem d_Yd_about_10 : decode b_Yd_about 10 = .ok (.if_icmp .le 13, 3) := by decide +kernel
theorem d_Yd_about_13 : decode b_Yd_about 13 = .ok (.new 50, 3) := by decide +kernel
theorem d_Yd_about_16 : decode b_Yd_about 16 = .ok (.dup, 1) := by decide +kernel
theorem d_Yd_about_17 : decode b_Yd_about 17 = .ok (.ldc 102, 2) := by decide +kernel
theorem d_Yd_about_19 : decode b_Yd_about 19 = .ok (.invokespecial 54, 3) := by decide +kernel
theorem d_Yd_about_22 : decode b_Yd_about 22 = .ok (.athrow, 1) := by decide +kernel
theorem d_Yd_about_23 : decode b_Yd_about 23 = .ok (.aload_n 0, 1) := by decide +kernel
theorem d_Yd_about_24 : decode b_Yd_about 24 = .ok (.iload_n 1, 1) := by decide +kernel
theorem d_Yd_about_25 : decode b_Yd_about 25 = .ok (.invokevirtual 74, 3) := by decide +kernel
theorem d_Yd_about_28 : decode b_Yd_about 28 = .ok (.istore_n 3, 1) := by decide +kernel
theorem d_Yd_about_29 : decode b_Yd_about 29 = .ok (.iload_n 2, 1) := by decide +kernel
theorem d_Yd_about_30 : decode b_Yd_about 30 = .ok (.tableswitch 53 0 2 #[26, 35, 44], 26) := by decide +kernel
theorem d_Yd_about_56 : decode b_Yd_about 56 = .ok (.aload_n 0, 1) := by decide +kernel
theorem d_Yd_about_57 : decode b_Yd_about 57 = .ok (.getfield 33, 3) := by decide +kernel
theorem d_Yd_about_60 : decode b_Yd_about 60 = .ok (.iload_n 3, 1) := by decide +kernel
theorem d_Yd_about_61 : decode b_Yd_about 61 = .ok (.invokevirtual 104, 3) := by decide +kernel
theorem d_Yd_about_64 : decode b_Yd_about 64 = .ok (.ireturn, 1) := by decide +kernel
theorem d_Yd_about_65 : decode b_Yd_about 65 = .ok (.aload_n 0, 1) := by decide +kernel
theorem d_Yd_about_66 : decode b_Yd_about 66 = .ok (.getfield 33, 3) := by decide +kernel
theorem d_Yd_about_69 : decode b_Yd_about 69 = .ok (.iload_n 3, 1) := by decide +kernel
theorem d_Yd_about_70 : decode b_Yd_about 70 = .ok (.invokevirtual 90, 3) := by decide +kernel
theorem d_Yd_about_73 : decode b_Yd_about 73 = .ok (.ireturn, 1) := by decide +kernel
theorem d_Yd_about_74 : decode b_Yd_about 74 = .ok (.aload_n 0, 1) := by decide +kernel
theorem d_Yd_about_75 : decode b_Yd_about 75 = .ok (.getfield 33, 3) := by decide +kernel
theorem d_Yd_about_78 : decode b_Yd_about 78 = .ok (.iload_n 3, 1) := by decide +kernel
theorem d_Yd_about_79 : decode b_Yd_about 79 = .ok (.invokevirtual 107, 3) := by decide +kernel
theorem d_Yd_about_82 : decode b_Yd_about 82 = .ok (.ireturn, 1) := by decide +kernel
theorem d_Yd_about_83 : decode b_Yd_about 83 = .ok (.aload_n 0, 1) := by decide +kernel
theorem d_Yd_about_84 : decode b_Yd_about 84 = .ok (.getfield 33, 3) := by decide +kernel
theorem d_Yd_about_87 : decode b_Yd_about 87 = .ok (.iload_n 3, 1) := by decide +kernel
theorem d_Yd_about_88 : decode b_Yd_about 88 = .ok (.invokevirtual 110, 3) := by decide +kernel
theorem d_Yd_about_91 : decode b_Yd_about 91 = .ok (.ireturn, 1) := by decide +kernel
theorem d_Yd_field_0 : decode b_Yd_field 0 = .ok (.iload_n 1, 1) := by decide +kernel
theorem d_Yd_field_1 : decode b_Yd_field 1 = .ok (.invokestatic 46, 3) := by decide +kernel
theorem d_Yd_field_4 : decode b_Yd_field 4 = .ok (.aload_n 0, 1) := by decide +kernel
theorem d_Yd_field_5 : decode b_Yd_field 5 = .ok (.iload_n 1, 1) := by decide +kernel
theorem d_Yd_field_6 : decode b_Yd_field 6 = .ok (.invokevirtual 74, 3) := by decide +kernel
theorem d_Yd_field_9 : decode b_Yd_field 9 = .ok (.istore_n 3, 1) := by decide +kernel
theorem d_Yd_field_10 : decode b_Yd_field 10 = .ok (.aload_n 0, 1) := by decide +kernel
theorem d_Yd_field_11 : decode b_Yd_field 11 = .ok (.iload_n 3, 1) := by decide +kernel
theorem d_Yd_field_12 : decode b_Yd_field 12 = .ok (.iload_n 2, 1) := by decide +kernel
theorem d_Yd_field_13 : decode b_Yd_field 13 = .ok (.invokevirtual 78, 3) := by decide +kernel
theorem d_Yd_field_16 : decode b_Yd_field 16 = .ok (.aload_n 0, 1) := by decide +kernel
theorem d_Yd_field_17 : decode b_Yd_field 17 = .ok (.aload_n 0, 1) := by decide +kernel
theorem d_Yd_field_18 : decode b_Yd_field 18 = .ok (.getfield 33, 3) := by decide +kernel
theorem d_Yd_field_21 : decode b_Yd_field 21 = .ok (.iload_n 3, 1) := by decide +kernel
theorem d_Yd_field_22 : decode b_Yd_field 22 = .ok (.iload_n 2, 1) := by decide +kernel
theorem d_Yd_field_23 : decode b_Yd_field 23 = .ok (.invokevirtual 86, 3) := by decide +kernel
theorem d_Yd_field_26 : decode b_Yd_field 26 = .ok (.invokevirtual 99, 3) := by decide +kernel
theorem d_Yd_field_29 : decode b_Yd_field 29 = .ok (.ireturn, 1) := by decide +kernel
theorem d_Yd_same_0 : decode b_Yd_same 0 = .ok (.iload_n 1, 1) := by decide +kernel
theorem d_Yd_same_1 : decode b_Yd_same 1 = .ok (.invokestatic 46, 3) := by decide +kernel
theorem d_Yd_same_4 : decode b_Yd_same 4 = .ok (.iload_n 2, 1) := by decide +kernel
theorem d_Yd_same_5 : decode b_Yd_same 5 = .ok (.invokestatic 46, 3) := by decide +kernel
theorem d_Yd_same_8 : decode b_Yd_same 8 = .ok (.aload_n 0, 1) := by decide +kernel
theorem d_Yd_same_9 : decode b_Yd_same 9 = .ok (.getfield 9, 3) := by decide +kernel
theorem d_Yd_same_12 : decode b_Yd_same 12 = .ok (.iload_n 1, 1) := by decide +kernel
theorem d_Yd_same_13 : decode b_Yd_same 13 = .ok (.iaload, 1) := by decide +kernel
theorem d_Yd_same_14 : decode b_Yd_same 14 = .ok (.aload_n 0, 1) := by decide +kernel
theorem d_Yd_same_15 : decode b_Yd_same 15 = .ok (.getfield 9, 3) := by decide +kernel
theorem d_Yd_same_18 : decode b_Yd_same 18 = .ok (.iload_n 2, 1) := by decide +kernel
theorem d_Yd_same_19 : decode b_Yd_same 19 = .ok (.iaload, 1) := by decide +kernel
theorem d_Yd_same_20 : decode b_Yd_same 20 = .ok (.if_icmp .ne 7, 3) := by decide +kernel
theorem d_Yd_same_23 : decode b_Yd_same 23 = .ok (.iconst 1, 1) := by decide +kernel
theorem d_Yd_same_24 : decode b_Yd_same 24 = .ok (.goto 4, 3) := by decide +kernel
theorem d_Yd_same_27 : decode b_Yd_same 27 = .ok (.iconst 0, 1) := by decide +kernel
theorem d_Yd_same_28 : decode b_Yd_same 28 = .ok (.ireturn, 1) := by decide +kernel
theorem d_Yd_reach_0 : decode b_Yd_reach 0 = .ok (.iload_n 1, 1) := by decide +kernel
theorem d_Yd_reach_1 : decode b_Yd_reach 1 = .ok (.invokestatic 46, 3) := by decide +kernel
theorem d_Yd_reach_4 : decode b_Yd_reach 4 = .ok (.aload_n 0, 1) := by decide +kernel
theorem d_Yd_reach_5 : decode b_Yd_reach 5 = .ok (.getfield 26, 3) := by decide +kernel
theorem d_Yd_reach_8 : decode b_Yd_reach 8 = .ok (.aload_n 0, 1) := by decide +kernel
theorem d_Yd_reach_9 : decode b_Yd_reach 9 = .ok (.getfield 33, 3) := by decide +kernel
theorem d_Yd_reach_12 : decode b_Yd_reach 12 = .ok (.aload_n 0, 1) := by decide +kernel
theorem d_Yd_reach_13 : decode b_Yd_reach 13 = .ok (.getfield 9, 3) := by decide +kernel
theorem d_Yd_reach_16 : decode b_Yd_reach 16 = .ok (.iload_n 1, 1) := by decide +kernel
theorem d_Yd_reach_17 : decode b_Yd_reach 17 = .ok (.iaload, 1) := by decide +kernel
theorem d_Yd_reach_18 : decode b_Yd_reach 18 = .ok (.invokevirtual 113, 3) := by decide +kernel
theorem d_Yd_reach_21 : decode b_Yd_reach 21 = .ok (.ireturn, 1) := by decide +kernel
theorem d_Yd_collect_0 : decode b_Yd_collect 0 = .ok (.iload_n 1, 1) := by decide +kernel
theorem d_Yd_collect_1 : decode b_Yd_collect 1 = .ok (.iconst 1, 1) := by decide +kernel
theorem d_Yd_collect_2 : decode b_Yd_collect 2 = .ok (.if_icmp .lt 8, 3) := by decide +kernel
theorem d_Yd_collect_5 : decode b_Yd_collect 5 = .ok (.iload_n 1, 1) := by decide +kernel
theorem d_Yd_collect_6 : decode b_Yd_collect 6 = .ok (.iconst 4, 1) := by decide +kernel
theorem d_Yd_collect_7 : decode b_Yd_collect 7 = .ok (.if_icmp .le 13, 3) := by decide +kernel
theorem d_Yd_collect_10 : decode b_Yd_collect 10 = .ok (.new 50, 3) := by decide +kernel
theorem d_Yd_collect_13 : decode b_Yd_collect 13 = .ok (.dup, 1) := by decide +kernel
theorem d_Yd_collect_14 : decode b_Yd_collect 14 = .ok (.ldc 117, 2) := by decide +kernel
theorem d_Yd_collect_16 : decode b_Yd_collect 16 = .ok (.invokespecial 54, 3) := by decide +kernel
theorem d_Yd_collect_19 : decode b_Yd_collect 19 = .ok (.athrow, 1) := by decide +kernel
theorem d_Yd_collect_20 : decode b_Yd_collect 20 = .ok (.aload_n 0, 1) := by decide +kernel
theorem d_Yd_collect_21 : decode b_Yd_collect 21 = .ok (.getfield 33, 3) := by decide +kernel
theorem d_Yd_collect_24 : decode b_Yd_collect 24 = .ok (.invokevirtual 119, 3) := by decide +kernel
theorem d_Yd_collect_27 : decode b_Yd_collect 27 = .ok (.istore_n 3, 1) := by decide +kernel
theorem d_Yd_collect_28 : decode b_Yd_collect 28 = .ok (.aload_n 0, 1) := by decide +kernel
theorem d_Yd_collect_29 : decode b_Yd_collect 29 = .ok (.getfield 37, 3) := by decide +kernel
theorem d_Yd_collect_32 : decode b_Yd_collect 32 = .ok (.invokevirtual 123, 3) := by decide +kernel
theorem d_Yd_collect_35 : decode b_Yd_collect 35 = .ok (.aload_n 0, 1) := by decide +kernel
theorem d_Yd_collect_36 : decode b_Yd_collect 36 = .ok (.getfield 19, 3) := by decide +kernel
theorem d_Yd_collect_39 : decode b_Yd_collect 39 = .ok (.iload_n 1, 1) := by decide +kernel
theorem d_Yd_collect_40 : decode b_Yd_collect 40 = .ok (.iload_n 2, 1) := by decide +kernel
theorem d_Yd_collect_41 : decode b_Yd_collect 41 = .ok (.invokevirtual 126, 3) := by decide +kernel
theorem d_Yd_collect_44 : decode b_Yd_collect 44 = .ok (.aload_n 0, 1) := by decide +kernel
theorem d_Yd_collect_45 : decode b_Yd_collect 45 = .ok (.getfield 19, 3) := by decide +kernel
theorem d_Yd_collect_48 : decode b_Yd_collect 48 = .ok (.aload_n 0, 1) := by decide +kernel
theorem d_Yd_collect_49 : decode b_Yd_collect 49 = .ok (.getfield 33, 3) := by decide +kernel
theorem d_Yd_collect_52 : decode b_Yd_collect 52 = .ok (.aload_n 0, 1) := by decide +kernel
theorem d_Yd_collect_53 : decode b_Yd_collect 53 = .ok (.getfield 37, 3) := by decide +kernel
theorem d_Yd_collect_56 : decode b_Yd_collect 56 = .ok (.aload_n 0, 1) := by decide +kernel
theorem d_Yd_collect_57 : decode b_Yd_collect 57 = .ok (.getfield 9, 3) := by decide +kernel
theorem d_Yd_collect_60 : decode b_Yd_collect 60 = .ok (.invokevirtual 129, 3) := by decide +kernel
theorem d_Yd_collect_63 : decode b_Yd_collect 63 = .ok (.aload_n 0, 1) := by decide +kernel
theorem d_Yd_collect_64 : decode b_Yd_collect 64 = .ok (.getfield 19, 3) := by decide +kernel
theorem d_Yd_collect_67 : decode b_Yd_collect 67 = .ok (.aload_n 0, 1) := by decide +kernel
theorem d_Yd_collect_68 : decode b_Yd_collect 68 = .ok (.getfield 33, 3) := by decide +kernel
theorem d_Yd_collect_71 : decode b_Yd_collect 71 = .ok (.aload_n 0, 1) := by decide +kernel
theorem d_Yd_collect_72 : decode b_Yd_collect 72 = .ok (.getfield 37, 3) := by decide +kernel
theorem d_Yd_collect_75 : decode b_Yd_collect 75 = .ok (.invokevirtual 133, 3) := by decide +kernel
theorem d_Yd_collect_78 : decode b_Yd_collect 78 = .ok (.aload_n 0, 1) := by decide +kernel
theorem d_Yd_collect_79 : decode b_Yd_collect 79 = .ok (.getfield 19, 3) := by decide +kernel
theorem d_Yd_collect_82 : decode b_Yd_collect 82 = .ok (.aload_n 0, 1) := by decide +kernel
theorem d_Yd_collect_83 : decode b_Yd_collect 83 = .ok (.getfield 13, 3) := by decide +kernel
theorem d_Yd_collect_86 : decode b_Yd_collect 86 = .ok (.invokevirtual 137, 3) := by decide +kernel
theorem d_Yd_collect_89 : decode b_Yd_collect 89 = .ok (.aload_n 0, 1) := by decide +kernel
theorem d_Yd_collect_90 : decode b_Yd_collect 90 = .ok (.getfield 33, 3) := by decide +kernel
theorem d_Yd_collect_93 : decode b_Yd_collect 93 = .ok (.astore 4, 2) := by decide +kernel
theorem d_Yd_collect_95 : decode b_Yd_collect 95 = .ok (.aload_n 0, 1) := by decide +kernel
theorem d_Yd_collect_96 : decode b_Yd_collect 96 = .ok (.aload_n 0, 1) := by decide +kernel
theorem d_Yd_collect_97 : decode b_Yd_collect 97 = .ok (.getfield 37, 3) := by decide +kernel
theorem d_Yd_collect_100 : decode b_Yd_collect 100 = .ok (.putfield 33, 3) := by decide +kernel
theorem d_Yd_collect_103 : decode b_Yd_collect 103 = .ok (.aload_n 0, 1) := by decide +kernel
theorem d_Yd_collect_104 : decode b_Yd_collect 104 = .ok (.aload 4, 2) := by decide +kernel
theorem d_Yd_collect_106 : decode b_Yd_collect 106 = .ok (.putfield 37, 3) := by decide +kernel
theorem d_Yd_collect_109 : decode b_Yd_collect 109 = .ok (.aload_n 0, 1) := by decide +kernel
theorem d_Yd_collect_110 : decode b_Yd_collect 110 = .ok (.dup, 1) := by decide +kernel
theorem d_Yd_collect_111 : decode b_Yd_collect 111 = .ok (.getfield 141, 3) := by decide +kernel
theorem d_Yd_collect_114 : decode b_Yd_collect 114 = .ok (.iconst 1, 1) := by decide +kernel
theorem d_Yd_collect_115 : decode b_Yd_collect 115 = .ok (.iadd, 1) := by decide +kernel
theorem d_Yd_collect_116 : decode b_Yd_collect 116 = .ok (.putfield 141, 3) := by decide +kernel
theorem d_Yd_collect_119 : decode b_Yd_collect 119 = .ok (.iload_n 3, 1) := by decide +kernel
theorem d_Yd_collect_120 : decode b_Yd_collect 120 = .ok (.aload_n 0, 1) := by decide +kernel
theorem d_Yd_collect_121 : decode b_Yd_collect 121 = .ok (.getfield 33, 3) := by decide +kernel
theorem d_Yd_collect_124 : decode b_Yd_collect 124 = .ok (.invokevirtual 119, 3) := by decide +kernel
theorem d_Yd_collect_127 : decode b_Yd_collect 127 = .ok (.isub, 1) := by decide +kernel
theorem d_Yd_collect_128 : decode b_Yd_collect 128 = .ok (.ireturn, 1) := by decide +kernel
theorem d_Yd_figure_0 : decode b_Yd_figure 0 = .ok (.iload_n 1, 1) := by decide +kernel
theorem d_Yd_figure_1 : decode b_Yd_figure 1 = .ok (.tableswitch 57 0 3 #[31, 39, 47, 52], 31) := by decide +kernel
theorem d_Yd_figure_32 : decode b_Yd_figure 32 = .ok (.aload_n 0, 1) := by decide +kernel
theorem d_Yd_figure_33 : decode b_Yd_figure 33 = .ok (.getfield 33, 3) := by decide +kernel
theorem d_Yd_figure_36 : decode b_Yd_figure 36 = .ok (.invokevirtual 144, 3) := by decide +kernel
theorem d_Yd_figure_39 : decode b_Yd_figure 39 = .ok (.ireturn, 1) := by decide +kernel
theorem d_Yd_figure_40 : decode b_Yd_figure 40 = .ok (.aload_n 0, 1) := by decide +kernel
theorem d_Yd_figure_41 : decode b_Yd_figure 41 = .ok (.getfield 33, 3) := by decide +kernel
theorem d_Yd_figure_44 : decode b_Yd_figure 44 = .ok (.invokevirtual 119, 3) := by decide +kernel
theorem d_Yd_figure_47 : decode b_Yd_figure 47 = .ok (.ireturn, 1) := by decide +kernel
theorem d_Yd_figure_48 : decode b_Yd_figure 48 = .ok (.aload_n 0, 1) := by decide +kernel
theorem d_Yd_figure_49 : decode b_Yd_figure 49 = .ok (.getfield 141, 3) := by decide +kernel
theorem d_Yd_figure_52 : decode b_Yd_figure 52 = .ok (.ireturn, 1) := by decide +kernel
theorem d_Yd_figure_53 : decode b_Yd_figure 53 = .ok (.aload_n 0, 1) := by decide +kernel
theorem d_Yd_figure_54 : decode b_Yd_figure 54 = .ok (.getfield 66, 3) := by decide +kernel
theorem d_Yd_figure_57 : decode b_Yd_figure 57 = .ok (.ireturn, 1) := by decide +kernel
theorem d_Yd_figure_58 : decode b_Yd_figure 58 = .ok (.new 50, 3) := by decide +kernel
theorem d_Yd_figure_61 : decode b_Yd_figure 61 = .ok (.dup, 1) := by decide +kernel
theorem d_Yd_figure_62 : decode b_Yd_figure 62 = .ok (.ldc 147, 2) := by decide +kernel
theorem d_Yd_figure_64 : decode b_Yd_figure 64 = .ok (.invokespecial 54, 3) := by decide +kernel
theorem d_Yd_figure_67 : decode b_Yd_figure 67 = .ok (.athrow, 1) := by decide +kernel
