theorem d_Sp_init_0 : decode b_Sp_init 0 = .ok (.aload_n 0, 1) := by decide +kernel
theorem d_Sp_init_1 : decode b_Sp_init 1 = .ok (.invokespecial 5, 3) := by decide +kernel
theorem d_Sp_init_4 : decode b_Sp_init 4 = .ok (.aload_n 0, 1) := by decide +kernel
theorem d_Sp_init_5 : decode b_Sp_init 5 = .ok (.sipush 240, 3) := by decide +kernel
theorem d_Sp_init_8 : decode b_Sp_init 8 = .ok (.newarray .int, 2) := by decide +kernel
theorem d_Sp_init_10 : decode b_Sp_init 10 = .ok (.putfield 11, 3) := by decide +kernel
theorem d_Sp_init_13 : decode b_Sp_init 13 = .ok (.return_, 1) := by decide +kernel
theorem d_Sp_hasRoomFor_0 : decode b_Sp_hasRoomFor 0 = .ok (.aload_n 0, 1) := by decide +kernel
theorem d_Sp_hasRoomFor_1 : decode b_Sp_hasRoomFor 1 = .ok (.getfield 15, 3) := by decide +kernel
theorem d_Sp_hasRoomFor_4 : decode b_Sp_hasRoomFor 4 = .ok (.iconst 3, 1) := by decide +kernel
theorem d_Sp_hasRoomFor_5 : decode b_Sp_hasRoomFor 5 = .ok (.iadd, 1) := by decide +kernel
theorem d_Sp_hasRoomFor_6 : decode b_Sp_hasRoomFor 6 = .ok (.iload_n 1, 1) := by decide +kernel
theorem d_Sp_hasRoomFor_7 : decode b_Sp_hasRoomFor 7 = .ok (.iadd, 1) := by decide +kernel
theorem d_Sp_hasRoomFor_8 : decode b_Sp_hasRoomFor 8 = .ok (.sipush 240, 3) := by decide +kernel
theorem d_Sp_hasRoomFor_11 : decode b_Sp_hasRoomFor 11 = .ok (.if_icmp .gt 7, 3) := by decide +kernel
theorem d_Sp_hasRoomFor_14 : decode b_Sp_hasRoomFor 14 = .ok (.iconst 1, 1) := by decide +kernel
theorem d_Sp_hasRoomFor_15 : decode b_Sp_hasRoomFor 15 = .ok (.goto 4, 3) := by decide +kernel
theorem d_Sp_hasRoomFor_18 : decode b_Sp_hasRoomFor 18 = .ok (.iconst 0, 1) := by decide +kernel
theorem d_Sp_hasRoomFor_19 : decode b_Sp_hasRoomFor 19 = .ok (.ireturn, 1) := by decide +kernel
theorem d_Sp_layDown_0 : decode b_Sp_layDown 0 = .ok (.aload_n 0, 1) := by decide +kernel
theorem d_Sp_layDown_1 : decode b_Sp_layDown 1 = .ok (.getfield 15, 3) := by decide +kernel
theorem d_Sp_layDown_4 : decode b_Sp_layDown 4 = .ok (.istore 4, 2) := by decide +kernel
theorem d_Sp_layDown_6 : decode b_Sp_layDown 6 = .ok (.aload_n 0, 1) := by decide +kernel
theorem d_Sp_layDown_7 : decode b_Sp_layDown 7 = .ok (.getfield 11, 3) := by decide +kernel
theorem d_Sp_layDown_10 : decode b_Sp_layDown 10 = .ok (.iload 4, 2) := by decide +kernel
theorem d_Sp_layDown_12 : decode b_Sp_layDown 12 = .ok (.iload_n 1, 1) := by decide +kernel
theorem d_Sp_layDown_13 : decode b_Sp_layDown 13 = .ok (.iastore, 1) := by decide +kernel
theorem d_Sp_layDown_14 : decode b_Sp_layDown 14 = .ok (.aload_n 0, 1) := by decide +kernel
theorem d_Sp_layDown_15 : decode b_Sp_layDown 15 = .ok (.getfield 11, 3) := by decide +kernel
theorem d_Sp_layDown_18 : decode b_Sp_layDown 18 = .ok (.iload 4, 2) := by decide +kernel
theorem d_Sp_layDown_20 : decode b_Sp_layDown 20 = .ok (.iconst 1, 1) := by decide +kernel
theorem d_Sp_layDown_21 : decode b_Sp_layDown 21 = .ok (.iadd, 1) := by decide +kernel
theorem d_Sp_layDown_22 : decode b_Sp_layDown 22 = .ok (.iload_n 3, 1) := by decide +kernel
theorem d_Sp_layDown_23 : decode b_Sp_layDown 23 = .ok (.iastore, 1) := by decide +kernel
theorem d_Sp_layDown_24 : decode b_Sp_layDown 24 = .ok (.aload_n 0, 1) := by decide +kernel
theorem d_Sp_layDown_25 : decode b_Sp_layDown 25 = .ok (.getfield 11, 3) := by decide +kernel
theorem d_Sp_layDown_28 : decode b_Sp_layDown 28 = .ok (.iload 4, 2) := by decide +kernel
theorem d_Sp_layDown_30 : decode b_Sp_layDown 30 = .ok (.iconst 2, 1) := by decide +kernel
theorem d_Sp_layDown_31 : decode b_Sp_layDown 31 = .ok (.iadd, 1) := by decide +kernel
theorem d_Sp_layDown_32 : decode b_Sp_layDown 32 = .ok (.iload_n 2, 1) := by decide +kernel
theorem d_Sp_layDown_33 : decode b_Sp_layDown 33 = .ok (.iastore, 1) := by decide +kernel
theorem d_Sp_layDown_34 : decode b_Sp_layDown 34 = .ok (.iconst 0, 1) := by decide +kernel
theorem d_Sp_layDown_35 : decode b_Sp_layDown 35 = .ok (.istore 5, 2) := by decide +kernel
theorem d_Sp_layDown_37 : decode b_Sp_layDown 37 = .ok (.iload 5, 2) := by decide +kernel
theorem d_Sp_layDown_39 : decode b_Sp_layDown 39 = .ok (.iload_n 2, 1) := by decide +kernel
theorem d_Sp_layDown_40 : decode b_Sp_layDown 40 = .ok (.if_icmp .ge 22, 3) := by decide +kernel
theorem d_Sp_layDown_43 : decode b_Sp_layDown 43 = .ok (.aload_n 0, 1) := by decide +kernel
theorem d_Sp_layDown_44 : decode b_Sp_layDown 44 = .ok (.getfield 11, 3) := by decide +kernel
theorem d_Sp_layDown_47 : decode b_Sp_layDown 47 = .ok (.iload 4, 2) := by decide +kernel
theorem d_Sp_layDown_49 : decode b_Sp_layDown 49 = .ok (.iconst 3, 1) := by decide +kernel
theorem d_Sp_layDown_50 : decode b_Sp_layDown 50 = .ok (.iadd, 1) := by decide +kernel
theorem d_Sp_layDown_51 : decode b_Sp_layDown 51 = .ok (.iload 5, 2) := by decide +kernel
theorem d_Sp_layDown_53 : decode b_Sp_layDown 53 = .ok (.iadd, 1) := by decide +kernel
theorem d_Sp_layDown_54 : decode b_Sp_layDown 54 = .ok (.iconst (-1), 1) := by decide +kernel
theorem d_Sp_layDown_55 : decode b_Sp_layDown 55 = .ok (.iastore, 1) := by decide +kernel
theorem d_Sp_layDown_56 : decode b_Sp_layDown 56 = .ok (.iinc 5 1, 3) := by decide +kernel
theorem d_Sp_layDown_59 : decode b_Sp_layDown 59 = .ok (.goto (-22), 3) := by decide +kernel
theorem d_Sp_layDown_62 : decode b_Sp_layDown 62 = .ok (.aload_n 0, 1) := by decide +kernel
theorem d_Sp_layDown_63 : decode b_Sp_layDown 63 = .ok (.dup, 1) := by decide +kernel
theorem d_Sp_layDown_64 : decode b_Sp_layDown 64 = .ok (.getfield 15, 3) := by decide +kernel
theorem d_Sp_layDown_67 : decode b_Sp_layDown 67 = .ok (.iconst 3, 1) := by decide +kernel
theorem d_Sp_layDown_68 : decode b_Sp_layDown 68 = .ok (.iload_n 2, 1) := by decide +kernel
theorem d_Sp_layDown_69 : decode b_Sp_layDown 69 = .ok (.iadd, 1) := by decide +kernel
theorem d_Sp_layDown_70 : decode b_Sp_layDown 70 = .ok (.iadd, 1) := by decide +kernel
theorem d_Sp_layDown_71 : decode b_Sp_layDown 71 = .ok (.putfield 15, 3) := by decide +kernel
theorem d_Sp_layDown_74 : decode b_Sp_layDown 74 = .ok (.aload_n 0, 1) := by decide +kernel
theorem d_Sp_layDown_75 : decode b_Sp_layDown 75 = .ok (.dup, 1) := by decide +kernel
theorem d_Sp_layDown_76 : decode b_Sp_layDown 76 = .ok (.getfield 19, 3) := by decide +kernel
theorem d_Sp_layDown_79 : decode b_Sp_layDown 79 = .ok (.iconst 1, 1) := by decide +kernel
theorem d_Sp_layDown_80 : decode b_Sp_layDown 80 = .ok (.iadd, 1) := by decide +kernel
theorem d_Sp_layDown_81 : decode b_Sp_layDown 81 = .ok (.putfield 19, 3) := by decide +kernel
theorem d_Sp_layDown_84 : decode b_Sp_layDown 84 = .ok (.iload 4, 2) := by decide +kernel
theorem d_Sp_layDown_86 : decode b_Sp_layDown 86 = .ok (.ireturn, 1) := by decide +kernel
theorem d_Sp_fieldCountOf_0 : decode b_Sp_fieldCountOf 0 = .ok (.aload_n 0, 1) := by decide +kernel
theorem d_Sp_fieldCountOf_1 : decode b_Sp_fieldCountOf 1 = .ok (.getfield 11, 3) := by decide +kernel
theorem d_Sp_fieldCountOf_4 : decode b_Sp_fieldCountOf 4 = .ok (.iload_n 1, 1) := by decide +kernel
theorem d_Sp_fieldCountOf_5 : decode b_Sp_fieldCountOf 5 = .ok (.iconst 2, 1) := by decide +kernel
theorem d_Sp_fieldCountOf_6 : decode b_Sp_fieldCountOf 6 = .ok (.iadd, 1) := by decide +kernel
theorem d_Sp_fieldCountOf_7 : decode b_Sp_fieldCountOf 7 = .ok (.iaload, 1) := by decide +kernel
theorem d_Sp_fieldCountOf_8 : decode b_Sp_fieldCountOf 8 = .ok (.bipush 7, 2) := by decide +kernel
theorem d_Sp_fieldCountOf_10 : decode b_Sp_fieldCountOf 10 = .ok (.iand, 1) := by decide +kernel
theorem d_Sp_fieldCountOf_11 : decode b_Sp_fieldCountOf 11 = .ok (.ireturn, 1) := by decide +kernel
theorem d_Sp_refer_0 : decode b_Sp_refer 0 = .ok (.aload_n 0, 1) := by decide +kernel
theorem d_Sp_refer_1 : decode b_Sp_refer 1 = .ok (.getfield 11, 3) := by decide +kernel
theorem d_Sp_refer_4 : decode b_Sp_refer 4 = .ok (.iload_n 1, 1) := by decide +kernel
theorem d_Sp_refer_5 : decode b_Sp_refer 5 = .ok (.iconst 3, 1) := by decide +kernel
theorem d_Sp_refer_6 : decode b_Sp_refer 6 = .ok (.iadd, 1) := by decide +kernel
theorem d_Sp_refer_7 : decode b_Sp_refer 7 = .ok (.iload_n 2, 1) := by decide +kernel
theorem d_Sp_refer_8 : decode b_Sp_refer 8 = .ok (.iadd, 1) := by decide +kernel
theorem d_Sp_refer_9 : decode b_Sp_refer 9 = .ok (.iload_n 3, 1) := by decide +kernel
theorem d_Sp_refer_10 : decode b_Sp_refer 10 = .ok (.iastore, 1) := by decide +kernel
theorem d_Sp_refer_11 : decode b_Sp_refer 11 = .ok (.return_, 1) := by decide +kernel
theorem d_Sp_referent_0 : decode b_Sp_referent 0 = .ok (.aload_n 0, 1) := by decide +kernel
theorem d_Sp_referent_1 : decode b_Sp_referent 1 = .ok (.getfield 11, 3) := by decide +kernel
theorem d_Sp_referent_4 : decode b_Sp_referent 4 = .ok (.iload_n 1, 1) := by decide +kernel
theorem d_Sp_referent_5 : decode b_Sp_referent 5 = .ok (.iconst 3, 1) := by decide +kernel
theorem d_Sp_referent_6 : decode b_Sp_referent 6 = .ok (.iadd, 1) := by decide +kernel
theorem d_Sp_referent_7 : decode b_Sp_referent 7 = .ok (.iload_n 2, 1) := by decide +kernel
theorem d_Sp_referent_8 : decode b_Sp_referent 8 = .ok (.iadd, 1) := by decide +kernel
theorem d_Sp_referent_9 : decode b_Sp_referent 9 = .ok (.iaload, 1) := by decide +kernel
theorem d_Sp_referent_10 : decode b_Sp_referent 10 = .ok (.ireturn, 1) := by decide +kernel
theorem d_Sp_valueOf_0 : decode b_Sp_valueOf 0 = .ok (.aload_n 0, 1) := by decide +kernel
theorem d_Sp_valueOf_1 : decode b_Sp_valueOf 1 = .ok (.getfield 11, 3) := by decide +kernel
theorem d_Sp_valueOf_4 : decode b_Sp_valueOf 4 = .ok (.iload_n 1, 1) := by decide +kernel
theorem d_Sp_valueOf_5 : decode b_Sp_valueOf 5 = .ok (.iconst 1, 1) := by decide +kernel
theorem d_Sp_valueOf_6 : decode b_Sp_valueOf 6 = .ok (.iadd, 1) := by decide +kernel
theorem d_Sp_valueOf_7 : decode b_Sp_valueOf 7 = .ok (.iaload, 1) := by decide +kernel
theorem d_Sp_valueOf_8 : decode b_Sp_valueOf 8 = .ok (.ireturn, 1) := by decide +kernel
theorem d_Sp_putValue_0 : decode b_Sp_putValue 0 = .ok (.aload_n 0, 1) := by decide +kernel
theorem d_Sp_putValue_1 : decode b_Sp_putValue 1 = .ok (.getfield 11, 3) := by decide +kernel
theorem d_Sp_putValue_4 : decode b_Sp_putValue 4 = .ok (.iload_n 1, 1) := by decide +kernel
theorem d_Sp_putValue_5 : decode b_Sp_putValue 5 = .ok (.iconst 1, 1) := by decide +kernel
theorem d_Sp_putValue_6 : decode b_Sp_putValue 6 = .ok (.iadd, 1) := by decide +kernel
theorem d_Sp_putValue_7 : decode b_Sp_putValue 7 = .ok (.iload_n 2, 1) := by decide +kernel
theorem d_Sp_putValue_8 : decode b_Sp_putValue 8 = .ok (.iastore, 1) := by decide +kernel
theorem d_Sp_putValue_9 : decode b_Sp_putValue 9 = .ok (.return_, 1) := by decide +kernel
theorem d_Sp_numberOf_0 : decode b_Sp_numberOf 0 = .ok (.aload_n 0, 1) := by decide +kernel
theorem d_Sp_numberOf_1 : decode b_Sp_numberOf 1 = .ok (.getfield 11, 3) := by decide +kernel
theorem d_Sp_numberOf_4 : decode b_Sp_numberOf 4 = .ok (.iload_n 1, 1) := by decide +kernel
theorem d_Sp_numberOf_5 : decode b_Sp_numberOf 5 = .ok (.iaload, 1) := by decide +kernel
theorem d_Sp_numberOf_6 : decode b_Sp_numberOf 6 = .ok (.ireturn, 1) := by decide +kernel
theorem d_Sp_ageOf_0 : decode b_Sp_ageOf 0 = .ok (.aload_n 0, 1) := by decide +kernel
theorem d_Sp_ageOf_1 : decode b_Sp_ageOf 1 = .ok (.getfield 11, 3) := by decide +kernel
theorem d_Sp_ageOf_4 : decode b_Sp_ageOf 4 = .ok (.iload_n 1, 1) := by decide +kernel
theorem d_Sp_ageOf_5 : decode b_Sp_ageOf 5 = .ok (.iconst 2, 1) := by decide +kernel
theorem d_Sp_ageOf_6 : decode b_Sp_ageOf 6 = .ok (.iadd, 1) := by decide +kernel
theorem d_Sp_ageOf_7 : decode b_Sp_ageOf 7 = .ok (.iaload, 1) := by decide +kernel
theorem d_Sp_ageOf_8 : decode b_Sp_ageOf 8 = .ok (.iconst 3, 1) := by decide +kernel
theorem d_Sp_ageOf_9 : decode b_Sp_ageOf 9 = .ok (.ishr, 1) := by decide +kernel
theorem d_Sp_ageOf_10 : decode b_Sp_ageOf 10 = .ok (.ireturn, 1) := by decide +kernel
theorem d_Sp_objects_0 : decode b_Sp_objects 0 = .ok (.aload_n 0, 1) := by decide +kernel
theorem d_Sp_objects_1 : decode b_Sp_objects 1 = .ok (.getfield 19, 3) := by decide +kernel
theorem d_Sp_objects_4 : decode b_Sp_objects 4 = .ok (.ireturn, 1) := by decide +kernel
theorem d_Sp_makeEmpty_0 : decode b_Sp_makeEmpty 0 = .ok (.aload_n 0, 1) := by decide +kernel
theorem d_Sp_makeEmpty_1 : decode b_Sp_makeEmpty 1 = .ok (.iconst 0, 1) := by decide +kernel
theorem d_Sp_makeEmpty_2 : decode b_Sp_makeEmpty 2 = .ok (.putfield 15, 3) := by decide +kernel
theorem d_Sp_makeEmpty_5 : decode b_Sp_makeEmpty 5 = .ok (.aload_n 0, 1) := by decide +kernel
theorem d_Sp_makeEmpty_6 : decode b_Sp_makeEmpty 6 = .ok (.iconst 0, 1) := by decide +kernel
theorem d_Sp_makeEmpty_7 : decode b_Sp_makeEmpty 7 = .ok (.putfield 19, 3) := by decide +kernel
theorem d_Sp_makeEmpty_10 : decode b_Sp_makeEmpty 10 = .ok (.return_, 1) := by decide +kernel
theorem d_Sp_takeOver_0 : decode b_Sp_takeOver 0 = .ok (.aload_n 0, 1) := by decide +kernel
theorem d_Sp_takeOver_1 : decode b_Sp_takeOver 1 = .ok (.getfield 15, 3) := by decide +kernel
theorem d_Sp_takeOver_4 : decode b_Sp_takeOver 4 = .ok (.istore_n 3, 1) := by decide +kernel
theorem d_Sp_takeOver_5 : decode b_Sp_takeOver 5 = .ok (.iconst 3, 1) := by decide +kernel
theorem d_Sp_takeOver_6 : decode b_Sp_takeOver 6 = .ok (.aload_n 1, 1) := by decide +kernel
theorem d_Sp_takeOver_7 : decode b_Sp_takeOver 7 = .ok (.iload_n 2, 1) := by decide +kernel
theorem d_Sp_takeOver_8 : decode b_Sp_takeOver 8 = .ok (.invokevirtual 22, 3) := by decide +kernel
theorem d_Sp_takeOver_11 : decode b_Sp_takeOver 11 = .ok (.iadd, 1) := by decide +kernel
theorem d_Sp_takeOver_12 : decode b_Sp_takeOver 12 = .ok (.istore 4, 2) := by decide +kernel
theorem d_Sp_takeOver_14 : decode b_Sp_takeOver 14 = .ok (.aload_n 1, 1) := by decide +kernel
theorem d_Sp_takeOver_15 : decode b_Sp_takeOver 15 = .ok (.getfield 11, 3) := by decide +kernel
theorem d_Sp_takeOver_18 : decode b_Sp_takeOver 18 = .ok (.iload_n 2, 1) := by decide +kernel
theorem d_Sp_takeOver_19 : decode b_Sp_takeOver 19 = .ok (.aload_n 0, 1) := by decide +kernel
theorem d_Sp_takeOver_20 : decode b_Sp_takeOver 20 = .ok (.getfield 11, 3) := by decide +kernel
theorem d_Sp_takeOver_23 : decode b_Sp_takeOver 23 = .ok (.iload_n 3, 1) := by decide +kernel
theorem d_Sp_takeOver_24 : decode b_Sp_takeOver 24 = .ok (.iload 4, 2) := by decide +kernel
theorem d_Sp_takeOver_26 : decode b_Sp_takeOver 26 = .ok (.invokestatic 26, 3) := by decide +kernel
theorem d_Sp_takeOver_29 : decode b_Sp_takeOver 29 = .ok (.aload_n 0, 1) := by decide +kernel
theorem d_Sp_takeOver_30 : decode b_Sp_takeOver 30 = .ok (.getfield 11, 3) := by decide +kernel
theorem d_Sp_takeOver_33 : decode b_Sp_takeOver 33 = .ok (.iload_n 3, 1) := by decide +kernel
theorem d_Sp_takeOver_34 : decode b_Sp_takeOver 34 = .ok (.iconst 2, 1) := by decide +kernel
theorem d_Sp_takeOver_35 : decode b_Sp_takeOver 35 = .ok (.iadd, 1) := by decide +kernel
theorem d_Sp_takeOver_36 : decode b_Sp_takeOver 36 = .ok (.dup2, 1) := by decide +kernel
theorem d_Sp_takeOver_37 : decode b_Sp_takeOver 37 = .ok (.iaload, 1) := by decide +kernel
theorem d_Sp_takeOver_38 : decode b_Sp_takeOver 38 = .ok (.bipush 8, 2) := by decide +kernel
theorem d_Sp_takeOver_40 : decode b_Sp_takeOver 40 = .ok (.iadd, 1) := by decide +kernel
theorem d_Sp_takeOver_41 : decode b_Sp_takeOver 41 = .ok (.iastore, 1) := by decide +kernel
theorem d_Sp_takeOver_42 : decode b_Sp_takeOver 42 = .ok (.aload_n 0, 1) := by decide +kernel
theorem d_Sp_takeOver_43 : decode b_Sp_takeOver 43 = .ok (.dup, 1) := by decide +kernel
theorem d_Sp_takeOver_44 : decode b_Sp_takeOver 44 = .ok (.getfield 15, 3) := by decide +kernel
theorem d_Sp_takeOver_47 : decode b_Sp_takeOver 47 = .ok (.iload 4, 2) := by decide +kernel
theorem d_Sp_takeOver_49 : decode b_Sp_takeOver 49 = .ok (.iadd, 1) := by decide +kernel
theorem d_Sp_takeOver_50 : decode b_Sp_takeOver 50 = .ok (.putfield 15, 3) := by decide +kernel
theorem d_Sp_takeOver_53 : decode b_Sp_takeOver 53 = .ok (.aload_n 0, 1) := by decide +kernel
theorem d_Sp_takeOver_54 : decode b_Sp_takeOver 54 = .ok (.dup, 1) := by decide +kernel
theorem d_Sp_takeOver_55 : decode b_Sp_takeOver 55 = .ok (.getfield 19, 3) := by decide +kernel
theorem d_Sp_takeOver_58 : decode b_Sp_takeOver 58 = .ok (.iconst 1, 1) := by decide +kernel
theorem d_Sp_takeOver_59 : decode b_Sp_takeOver 59 = .ok (.iadd, 1) := by decide +kernel
theorem d_Sp_takeOver_60 : decode b_Sp_takeOver 60 = .ok (.putfield 19, 3) := by decide +kernel
theorem d_Sp_takeOver_63 : decode b_Sp_takeOver 63 = .ok (.iload_n 3, 1) := by decide +kernel
theorem d_Sp_takeOver_64 : decode b_Sp_takeOver 64 = .ok (.ireturn, 1) := by decide +kernel
theorem d_Sp_words_0 : decode b_Sp_words 0 = .ok (.aload_n 0, 1) := by decide +kernel
theorem d_Sp_words_1 : decode b_Sp_words 1 = .ok (.getfield 15, 3) := by decide +kernel
theorem d_Sp_words_4 : decode b_Sp_words 4 = .ok (.ireturn, 1) := by decide +kernel
