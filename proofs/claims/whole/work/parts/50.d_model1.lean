theorem d_Mo_init_0 : decode b_Mo_init 0 = .ok (.aload_n 0, 1) := by decide +kernel
theorem d_Mo_init_1 : decode b_Mo_init 1 = .ok (.invokespecial 1, 3) := by decide +kernel
theorem d_Mo_init_4 : decode b_Mo_init 4 = .ok (.aload_n 0, 1) := by decide +kernel
theorem d_Mo_init_5 : decode b_Mo_init 5 = .ok (.bipush 80, 2) := by decide +kernel
theorem d_Mo_init_7 : decode b_Mo_init 7 = .ok (.newarray .int, 2) := by decide +kernel
theorem d_Mo_init_9 : decode b_Mo_init 9 = .ok (.putfield 7, 3) := by decide +kernel
theorem d_Mo_init_12 : decode b_Mo_init 12 = .ok (.aload_n 0, 1) := by decide +kernel
theorem d_Mo_init_13 : decode b_Mo_init 13 = .ok (.bipush 80, 2) := by decide +kernel
theorem d_Mo_init_15 : decode b_Mo_init 15 = .ok (.newarray .int, 2) := by decide +kernel
theorem d_Mo_init_17 : decode b_Mo_init 17 = .ok (.putfield 13, 3) := by decide +kernel
theorem d_Mo_init_20 : decode b_Mo_init 20 = .ok (.aload_n 0, 1) := by decide +kernel
theorem d_Mo_init_21 : decode b_Mo_init 21 = .ok (.bipush 80, 2) := by decide +kernel
theorem d_Mo_init_23 : decode b_Mo_init 23 = .ok (.newarray .int, 2) := by decide +kernel
theorem d_Mo_init_25 : decode b_Mo_init 25 = .ok (.putfield 16, 3) := by decide +kernel
theorem d_Mo_init_28 : decode b_Mo_init 28 = .ok (.aload_n 0, 1) := by decide +kernel
theorem d_Mo_init_29 : decode b_Mo_init 29 = .ok (.bipush 80, 2) := by decide +kernel
theorem d_Mo_init_31 : decode b_Mo_init 31 = .ok (.newarray .int, 2) := by decide +kernel
theorem d_Mo_init_33 : decode b_Mo_init 33 = .ok (.putfield 19, 3) := by decide +kernel
theorem d_Mo_init_36 : decode b_Mo_init 36 = .ok (.aload_n 0, 1) := by decide +kernel
theorem d_Mo_init_37 : decode b_Mo_init 37 = .ok (.sipush 320, 3) := by decide +kernel
theorem d_Mo_init_40 : decode b_Mo_init 40 = .ok (.newarray .int, 2) := by decide +kernel
theorem d_Mo_init_42 : decode b_Mo_init 42 = .ok (.putfield 22, 3) := by decide +kernel
theorem d_Mo_init_45 : decode b_Mo_init 45 = .ok (.aload_n 0, 1) := by decide +kernel
theorem d_Mo_init_46 : decode b_Mo_init 46 = .ok (.bipush 80, 2) := by decide +kernel
theorem d_Mo_init_48 : decode b_Mo_init 48 = .ok (.newarray .boolean, 2) := by decide +kernel
theorem d_Mo_init_50 : decode b_Mo_init 50 = .ok (.putfield 25, 3) := by decide +kernel
theorem d_Mo_init_53 : decode b_Mo_init 53 = .ok (.aload_n 0, 1) := by decide +kernel
theorem d_Mo_init_54 : decode b_Mo_init 54 = .ok (.bipush 8, 2) := by decide +kernel
theorem d_Mo_init_56 : decode b_Mo_init 56 = .ok (.newarray .int, 2) := by decide +kernel
theorem d_Mo_init_58 : decode b_Mo_init 58 = .ok (.putfield 29, 3) := by decide +kernel
theorem d_Mo_init_61 : decode b_Mo_init 61 = .ok (.aload_n 0, 1) := by decide +kernel
theorem d_Mo_init_62 : decode b_Mo_init 62 = .ok (.iconst 4, 1) := by decide +kernel
theorem d_Mo_init_63 : decode b_Mo_init 63 = .ok (.newarray .int, 2) := by decide +kernel
theorem d_Mo_init_65 : decode b_Mo_init 65 = .ok (.putfield 32, 3) := by decide +kernel
theorem d_Mo_init_68 : decode b_Mo_init 68 = .ok (.iconst 0, 1) := by decide +kernel
theorem d_Mo_init_69 : decode b_Mo_init 69 = .ok (.istore_n 1, 1) := by decide +kernel
theorem d_Mo_init_70 : decode b_Mo_init 70 = .ok (.iload_n 1, 1) := by decide +kernel
theorem d_Mo_init_71 : decode b_Mo_init 71 = .ok (.bipush 8, 2) := by decide +kernel
theorem d_Mo_init_73 : decode b_Mo_init 73 = .ok (.if_icmp .ge 16, 3) := by decide +kernel
theorem d_Mo_init_76 : decode b_Mo_init 76 = .ok (.aload_n 0, 1) := by decide +kernel
theorem d_Mo_init_77 : decode b_Mo_init 77 = .ok (.getfield 29, 3) := by decide +kernel
theorem d_Mo_init_80 : decode b_Mo_init 80 = .ok (.iload_n 1, 1) := by decide +kernel
theorem d_Mo_init_81 : decode b_Mo_init 81 = .ok (.iconst (-1), 1) := by decide +kernel
theorem d_Mo_init_82 : decode b_Mo_init 82 = .ok (.iastore, 1) := by decide +kernel
theorem d_Mo_init_83 : decode b_Mo_init 83 = .ok (.iinc 1 1, 3) := by decide +kernel
theorem d_Mo_init_86 : decode b_Mo_init 86 = .ok (.goto (-16), 3) := by decide +kernel
theorem d_Mo_init_89 : decode b_Mo_init 89 = .ok (.iconst 0, 1) := by decide +kernel
theorem d_Mo_init_90 : decode b_Mo_init 90 = .ok (.istore_n 1, 1) := by decide +kernel
theorem d_Mo_init_91 : decode b_Mo_init 91 = .ok (.iload_n 1, 1) := by decide +kernel
theorem d_Mo_init_92 : decode b_Mo_init 92 = .ok (.iconst 4, 1) := by decide +kernel
theorem d_Mo_init_93 : decode b_Mo_init 93 = .ok (.if_icmp .ge 16, 3) := by decide +kernel
theorem d_Mo_init_96 : decode b_Mo_init 96 = .ok (.aload_n 0, 1) := by decide +kernel
theorem d_Mo_init_97 : decode b_Mo_init 97 = .ok (.getfield 32, 3) := by decide +kernel
theorem d_Mo_init_100 : decode b_Mo_init 100 = .ok (.iload_n 1, 1) := by decide +kernel
theorem d_Mo_init_101 : decode b_Mo_init 101 = .ok (.iconst (-1), 1) := by decide +kernel
theorem d_Mo_init_102 : decode b_Mo_init 102 = .ok (.iastore, 1) := by decide +kernel
theorem d_Mo_init_103 : decode b_Mo_init 103 = .ok (.iinc 1 1, 3) := by decide +kernel
theorem d_Mo_init_106 : decode b_Mo_init 106 = .ok (.goto (-15), 3) := by decide +kernel
theorem d_Mo_init_109 : decode b_Mo_init 109 = .ok (.return_, 1) := by decide +kernel
theorem d_Mo_thrown_0 : decode b_Mo_thrown 0 = .ok (.aload_n 0, 1) := by decide +kernel
theorem d_Mo_thrown_1 : decode b_Mo_thrown 1 = .ok (.getfield 35, 3) := by decide +kernel
theorem d_Mo_thrown_4 : decode b_Mo_thrown 4 = .ok (.ireturn, 1) := by decide +kernel
theorem d_Mo_make_0 : decode b_Mo_make 0 = .ok (.aload_n 0, 1) := by decide +kernel
theorem d_Mo_make_1 : decode b_Mo_make 1 = .ok (.iload_n 1, 1) := by decide +kernel
theorem d_Mo_make_2 : decode b_Mo_make 2 = .ok (.invokestatic 42, 3) := by decide +kernel
theorem d_Mo_make_5 : decode b_Mo_make 5 = .ok (.ifCond .eq 12, 3) := by decide +kernel
theorem d_Mo_make_8 : decode b_Mo_make 8 = .ok (.iload_n 2, 1) := by decide +kernel
theorem d_Mo_make_9 : decode b_Mo_make 9 = .ok (.ifCond .lt 8, 3) := by decide +kernel
theorem d_Mo_make_12 : decode b_Mo_make 12 = .ok (.iload_n 2, 1) := by decide +kernel
theorem d_Mo_make_13 : decode b_Mo_make 13 = .ok (.iconst 4, 1) := by decide +kernel
theorem d_Mo_make_14 : decode b_Mo_make 14 = .ok (.if_icmp .le 7, 3) := by decide +kernel
theorem d_Mo_make_17 : decode b_Mo_make 17 = .ok (.iconst 1, 1) := by decide +kernel
theorem d_Mo_make_18 : decode b_Mo_make 18 = .ok (.goto 22, 3) := by decide +kernel
theorem d_Mo_make_21 : decode b_Mo_make 21 = .ok (.aload_n 0, 1) := by decide +kernel
theorem d_Mo_make_22 : decode b_Mo_make 22 = .ok (.invokevirtual 46, 3) := by decide +kernel
theorem d_Mo_make_25 : decode b_Mo_make 25 = .ok (.iload_n 2, 1) := by decide +kernel
theorem d_Mo_make_26 : decode b_Mo_make 26 = .ok (.iadd, 1) := by decide +kernel
theorem d_Mo_make_27 : decode b_Mo_make 27 = .ok (.iconst 3, 1) := by decide +kernel
theorem d_Mo_make_28 : decode b_Mo_make 28 = .ok (.iadd, 1) := by decide +kernel
theorem d_Mo_make_29 : decode b_Mo_make 29 = .ok (.sipush 240, 3) := by decide +kernel
theorem d_Mo_make_32 : decode b_Mo_make 32 = .ok (.if_icmp .le 7, 3) := by decide +kernel
theorem d_Mo_make_35 : decode b_Mo_make 35 = .ok (.iconst 2, 1) := by decide +kernel
theorem d_Mo_make_36 : decode b_Mo_make 36 = .ok (.goto 4, 3) := by decide +kernel
theorem d_Mo_make_39 : decode b_Mo_make 39 = .ok (.iconst 0, 1) := by decide +kernel
theorem d_Mo_make_40 : decode b_Mo_make 40 = .ok (.putfield 35, 3) := by decide +kernel
theorem d_Mo_make_43 : decode b_Mo_make 43 = .ok (.aload_n 0, 1) := by decide +kernel
theorem d_Mo_make_44 : decode b_Mo_make 44 = .ok (.getfield 35, 3) := by decide +kernel
theorem d_Mo_make_47 : decode b_Mo_make 47 = .ok (.ifCond .le 5, 3) := by decide +kernel
theorem d_Mo_make_50 : decode b_Mo_make 50 = .ok (.iconst 0, 1) := by decide +kernel
theorem d_Mo_make_51 : decode b_Mo_make 51 = .ok (.ireturn, 1) := by decide +kernel
theorem d_Mo_make_52 : decode b_Mo_make 52 = .ok (.aload_n 0, 1) := by decide +kernel
theorem d_Mo_make_53 : decode b_Mo_make 53 = .ok (.getfield 7, 3) := by decide +kernel
theorem d_Mo_make_56 : decode b_Mo_make 56 = .ok (.aload_n 0, 1) := by decide +kernel
theorem d_Mo_make_57 : decode b_Mo_make 57 = .ok (.getfield 39, 3) := by decide +kernel
theorem d_Mo_make_60 : decode b_Mo_make 60 = .ok (.aload_n 0, 1) := by decide +kernel
theorem d_Mo_make_61 : decode b_Mo_make 61 = .ok (.getfield 50, 3) := by decide +kernel
theorem d_Mo_make_64 : decode b_Mo_make 64 = .ok (.iastore, 1) := by decide +kernel
theorem d_Mo_make_65 : decode b_Mo_make 65 = .ok (.aload_n 0, 1) := by decide +kernel
theorem d_Mo_make_66 : decode b_Mo_make 66 = .ok (.getfield 13, 3) := by decide +kernel
theorem d_Mo_make_69 : decode b_Mo_make 69 = .ok (.aload_n 0, 1) := by decide +kernel
theorem d_Mo_make_70 : decode b_Mo_make 70 = .ok (.getfield 39, 3) := by decide +kernel
theorem d_Mo_make_73 : decode b_Mo_make 73 = .ok (.iload_n 3, 1) := by decide +kernel
theorem d_Mo_make_74 : decode b_Mo_make 74 = .ok (.iastore, 1) := by decide +kernel
theorem d_Mo_make_75 : decode b_Mo_make 75 = .ok (.aload_n 0, 1) := by decide +kernel
theorem d_Mo_make_76 : decode b_Mo_make 76 = .ok (.getfield 16, 3) := by decide +kernel
theorem d_Mo_make_79 : decode b_Mo_make 79 = .ok (.aload_n 0, 1) := by decide +kernel
theorem d_Mo_make_80 : decode b_Mo_make 80 = .ok (.getfield 39, 3) := by decide +kernel
theorem d_Mo_make_83 : decode b_Mo_make 83 = .ok (.iconst 0, 1) := by decide +kernel
theorem d_Mo_make_84 : decode b_Mo_make 84 = .ok (.iastore, 1) := by decide +kernel
theorem d_Mo_make_85 : decode b_Mo_make 85 = .ok (.aload_n 0, 1) := by decide +kernel
theorem d_Mo_make_86 : decode b_Mo_make 86 = .ok (.getfield 19, 3) := by decide +kernel
theorem d_Mo_make_89 : decode b_Mo_make 89 = .ok (.aload_n 0, 1) := by decide +kernel
theorem d_Mo_make_90 : decode b_Mo_make 90 = .ok (.getfield 39, 3) := by decide +kernel
theorem d_Mo_make_93 : decode b_Mo_make 93 = .ok (.iload_n 2, 1) := by decide +kernel
theorem d_Mo_make_94 : decode b_Mo_make 94 = .ok (.iastore, 1) := by decide +kernel
theorem d_Mo_make_95 : decode b_Mo_make 95 = .ok (.iconst 0, 1) := by decide +kernel
theorem d_Mo_make_96 : decode b_Mo_make 96 = .ok (.istore 4, 2) := by decide +kernel
theorem d_Mo_make_98 : decode b_Mo_make 98 = .ok (.iload 4, 2) := by decide +kernel
theorem d_Mo_make_100 : decode b_Mo_make 100 = .ok (.iconst 4, 1) := by decide +kernel
theorem d_Mo_make_101 : decode b_Mo_make 101 = .ok (.if_icmp .ge 24, 3) := by decide +kernel
theorem d_Mo_make_104 : decode b_Mo_make 104 = .ok (.aload_n 0, 1) := by decide +kernel
theorem d_Mo_make_105 : decode b_Mo_make 105 = .ok (.getfield 22, 3) := by decide +kernel
theorem d_Mo_make_108 : decode b_Mo_make 108 = .ok (.iconst 4, 1) := by decide +kernel
theorem d_Mo_make_109 : decode b_Mo_make 109 = .ok (.aload_n 0, 1) := by decide +kernel
theorem d_Mo_make_110 : decode b_Mo_make 110 = .ok (.getfield 39, 3) := by decide +kernel
theorem d_Mo_make_113 : decode b_Mo_make 113 = .ok (.imul, 1) := by decide +kernel
theorem d_Mo_make_114 : decode b_Mo_make 114 = .ok (.iload 4, 2) := by decide +kernel
theorem d_Mo_make_116 : decode b_Mo_make 116 = .ok (.iadd, 1) := by decide +kernel
theorem d_Mo_make_117 : decode b_Mo_make 117 = .ok (.iconst (-1), 1) := by decide +kernel
theorem d_Mo_make_118 : decode b_Mo_make 118 = .ok (.iastore, 1) := by decide +kernel
theorem d_Mo_make_119 : decode b_Mo_make 119 = .ok (.iinc 4 1, 3) := by decide +kernel
theorem d_Mo_make_122 : decode b_Mo_make 122 = .ok (.goto (-24), 3) := by decide +kernel
theorem d_Mo_make_125 : decode b_Mo_make 125 = .ok (.aload_n 0, 1) := by decide +kernel
theorem d_Mo_make_126 : decode b_Mo_make 126 = .ok (.dup, 1) := by decide +kernel
theorem d_Mo_make_127 : decode b_Mo_make 127 = .ok (.getfield 39, 3) := by decide +kernel
theorem d_Mo_make_130 : decode b_Mo_make 130 = .ok (.iconst 1, 1) := by decide +kernel
theorem d_Mo_make_131 : decode b_Mo_make 131 = .ok (.iadd, 1) := by decide +kernel
theorem d_Mo_make_132 : decode b_Mo_make 132 = .ok (.putfield 39, 3) := by decide +kernel
theorem d_Mo_make_135 : decode b_Mo_make 135 = .ok (.aload_n 0, 1) := by decide +kernel
theorem d_Mo_make_136 : decode b_Mo_make 136 = .ok (.dup, 1) := by decide +kernel
theorem d_Mo_make_137 : decode b_Mo_make 137 = .ok (.getfield 50, 3) := by decide +kernel
theorem d_Mo_make_140 : decode b_Mo_make 140 = .ok (.iconst 1, 1) := by decide +kernel
theorem d_Mo_make_141 : decode b_Mo_make 141 = .ok (.iadd, 1) := by decide +kernel
theorem d_Mo_make_142 : decode b_Mo_make 142 = .ok (.putfield 50, 3) := by decide +kernel
theorem d_Mo_make_145 : decode b_Mo_make 145 = .ok (.aload_n 0, 1) := by decide +kernel
theorem d_Mo_make_146 : decode b_Mo_make 146 = .ok (.getfield 29, 3) := by decide +kernel
theorem d_Mo_make_149 : decode b_Mo_make 149 = .ok (.iload_n 1, 1) := by decide +kernel
theorem d_Mo_make_150 : decode b_Mo_make 150 = .ok (.aload_n 0, 1) := by decide +kernel
theorem d_Mo_make_151 : decode b_Mo_make 151 = .ok (.getfield 50, 3) := by decide +kernel
theorem d_Mo_make_154 : decode b_Mo_make 154 = .ok (.iconst 1, 1) := by decide +kernel
theorem d_Mo_make_155 : decode b_Mo_make 155 = .ok (.isub, 1) := by decide +kernel
theorem d_Mo_make_156 : decode b_Mo_make 156 = .ok (.iastore, 1) := by decide +kernel
theorem d_Mo_make_157 : decode b_Mo_make 157 = .ok (.aload_n 0, 1) := by decide +kernel
theorem d_Mo_make_158 : decode b_Mo_make 158 = .ok (.getfield 50, 3) := by decide +kernel
theorem d_Mo_make_161 : decode b_Mo_make 161 = .ok (.iconst 1, 1) := by decide +kernel
theorem d_Mo_make_162 : decode b_Mo_make 162 = .ok (.isub, 1) := by decide +kernel
theorem d_Mo_make_163 : decode b_Mo_make 163 = .ok (.ireturn, 1) := by decide +kernel
theorem d_Mo_isRegister_0 : decode b_Mo_isRegister 0 = .ok (.iload_n 0, 1) := by decide +kernel
theorem d_Mo_isRegister_1 : decode b_Mo_isRegister 1 = .ok (.ifCond .lt 13, 3) := by decide +kernel
theorem d_Mo_isRegister_4 : decode b_Mo_isRegister 4 = .ok (.iload_n 0, 1) := by decide +kernel
theorem d_Mo_isRegister_5 : decode b_Mo_isRegister 5 = .ok (.bipush 8, 2) := by decide +kernel
theorem d_Mo_isRegister_7 : decode b_Mo_isRegister 7 = .ok (.if_icmp .ge 7, 3) := by decide +kernel
theorem d_Mo_isRegister_10 : decode b_Mo_isRegister 10 = .ok (.iconst 1, 1) := by decide +kernel
theorem d_Mo_isRegister_11 : decode b_Mo_isRegister 11 = .ok (.goto 4, 3) := by decide +kernel
theorem d_Mo_isRegister_14 : decode b_Mo_isRegister 14 = .ok (.iconst 0, 1) := by decide +kernel
theorem d_Mo_isRegister_15 : decode b_Mo_isRegister 15 = .ok (.ireturn, 1) := by decide +kernel
theorem d_Mo_words_0 : decode b_Mo_words 0 = .ok (.iconst 0, 1) := by decide +kernel
theorem d_Mo_words_1 : decode b_Mo_words 1 = .ok (.istore_n 1, 1) := by decide +kernel
theorem d_Mo_words_2 : decode b_Mo_words 2 = .ok (.iconst 0, 1) := by decide +kernel
theorem d_Mo_words_3 : decode b_Mo_words 3 = .ok (.istore_n 2, 1) := by decide +kernel
theorem d_Mo_words_4 : decode b_Mo_words 4 = .ok (.iload_n 2, 1) := by decide +kernel
theorem d_Mo_words_5 : decode b_Mo_words 5 = .ok (.aload_n 0, 1) := by decide +kernel
theorem d_Mo_words_6 : decode b_Mo_words 6 = .ok (.getfield 39, 3) := by decide +kernel
theorem d_Mo_words_9 : decode b_Mo_words 9 = .ok (.if_icmp .ge 20, 3) := by decide +kernel
theorem d_Mo_words_12 : decode b_Mo_words 12 = .ok (.iload_n 1, 1) := by decide +kernel
theorem d_Mo_words_13 : decode b_Mo_words 13 = .ok (.aload_n 0, 1) := by decide +kernel
theorem d_Mo_words_14 : decode b_Mo_words 14 = .ok (.getfield 19, 3) := by decide +kernel
theorem d_Mo_words_17 : decode b_Mo_words 17 = .ok (.iload_n 2, 1) := by decide +kernel
theorem d_Mo_words_18 : decode b_Mo_words 18 = .ok (.iaload, 1) := by decide +kernel
theorem d_Mo_words_19 : decode b_Mo_words 19 = .ok (.iconst 3, 1) := by decide +kernel
theorem d_Mo_words_20 : decode b_Mo_words 20 = .ok (.iadd, 1) := by decide +kernel
theorem d_Mo_words_21 : decode b_Mo_words 21 = .ok (.iadd, 1) := by decide +kernel
theorem d_Mo_words_22 : decode b_Mo_words 22 = .ok (.istore_n 1, 1) := by decide +kernel
theorem d_Mo_words_23 : decode b_Mo_words 23 = .ok (.iinc 2 1, 3) := by decide +kernel
theorem d_Mo_words_26 : decode b_Mo_words 26 = .ok (.goto (-22), 3) := by decide +kernel
theorem d_Mo_words_29 : decode b_Mo_words 29 = .ok (.iload_n 1, 1) := by decide +kernel
theorem d_Mo_words_30 : decode b_Mo_words 30 = .ok (.ireturn, 1) := by decide +kernel
theorem d_Mo_set_0 : decode b_Mo_set 0 = .ok (.aload_n 0, 1) := by decide +kernel
theorem d_Mo_set_1 : decode b_Mo_set 1 = .ok (.iload_n 1, 1) := by decide +kernel
theorem d_Mo_set_2 : decode b_Mo_set 2 = .ok (.invokestatic 42, 3) := by decide +kernel
theorem d_Mo_set_5 : decode b_Mo_set 5 = .ok (.ifCond .eq 14, 3) := by decide +kernel
theorem d_Mo_set_8 : decode b_Mo_set 8 = .ok (.iload_n 3, 1) := by decide +kernel
theorem d_Mo_set_9 : decode b_Mo_set 9 = .ok (.invokestatic 42, 3) := by decide +kernel
theorem d_Mo_set_12 : decode b_Mo_set 12 = .ok (.ifCond .eq 7, 3) := by decide +kernel
theorem d_Mo_set_15 : decode b_Mo_set 15 = .ok (.iconst 0, 1) := by decide +kernel
theorem d_Mo_set_16 : decode b_Mo_set 16 = .ok (.goto 4, 3) := by decide +kernel
theorem d_Mo_set_19 : decode b_Mo_set 19 = .ok (.iconst 1, 1) := by decide +kernel
theorem d_Mo_set_20 : decode b_Mo_set 20 = .ok (.putfield 35, 3) := by decide +kernel
theorem d_Mo_set_23 : decode b_Mo_set 23 = .ok (.aload_n 0, 1) := by decide +kernel
theorem d_Mo_set_24 : decode b_Mo_set 24 = .ok (.getfield 35, 3) := by decide +kernel
theorem d_Mo_set_27 : decode b_Mo_set 27 = .ok (.ifCond .le 7, 3) := by decide +kernel
theorem d_Mo_set_30 : decode b_Mo_set 30 = .ok (.iconst (-1), 1) := by decide +kernel
theorem d_Mo_set_31 : decode b_Mo_set 31 = .ok (.goto 9, 3) := by decide +kernel
theorem d_Mo_set_34 : decode b_Mo_set 34 = .ok (.aload_n 0, 1) := by decide +kernel
theorem d_Mo_set_35 : decode b_Mo_set 35 = .ok (.iload_n 1, 1) := by decide +kernel
theorem d_Mo_set_36 : decode b_Mo_set 36 = .ok (.iload_n 2, 1) := by decide +kernel
theorem d_Mo_set_37 : decode b_Mo_set 37 = .ok (.invokevirtual 57, 3) := by decide +kernel
theorem d_Mo_set_40 : decode b_Mo_set 40 = .ok (.istore 4, 2) := by decide +kernel
theorem d_Mo_set_42 : decode b_Mo_set 42 = .ok (.iload 4, 2) := by decide +kernel
theorem d_Mo_set_44 : decode b_Mo_set 44 = .ok (.ifCond .lt 16, 3) := by decide +kernel
theorem d_Mo_set_47 : decode b_Mo_set 47 = .ok (.aload_n 0, 1) := by decide +kernel
theorem d_Mo_set_48 : decode b_Mo_set 48 = .ok (.getfield 22, 3) := by decide +kernel
theorem d_Mo_set_51 : decode b_Mo_set 51 = .ok (.iload 4, 2) := by decide +kernel
theorem d_Mo_set_53 : decode b_Mo_set 53 = .ok (.aload_n 0, 1) := by decide +kernel
theorem d_Mo_set_54 : decode b_Mo_set 54 = .ok (.getfield 29, 3) := by decide +kernel
theorem d_Mo_set_57 : decode b_Mo_set 57 = .ok (.iload_n 3, 1) := by decide +kernel
theorem d_Mo_set_58 : decode b_Mo_set 58 = .ok (.iaload, 1) := by decide +kernel
theorem d_Mo_set_59 : decode b_Mo_set 59 = .ok (.iastore, 1) := by decide +kernel
theorem d_Mo_set_60 : decode b_Mo_set 60 = .ok (.return_, 1) := by decide +kernel
theorem d_Mo_fieldAt_0 : decode b_Mo_fieldAt 0 = .ok (.aload_n 0, 1) := by decide +kernel
theorem d_Mo_fieldAt_1 : decode b_Mo_fieldAt 1 = .ok (.aload_n 0, 1) := by decide +kernel
theorem d_Mo_fieldAt_2 : decode b_Mo_fieldAt 2 = .ok (.getfield 29, 3) := by decide +kernel
theorem d_Mo_fieldAt_5 : decode b_Mo_fieldAt 5 = .ok (.iload_n 1, 1) := by decide +kernel
theorem d_Mo_fieldAt_6 : decode b_Mo_fieldAt 6 = .ok (.iaload, 1) := by decide +kernel
theorem d_Mo_fieldAt_7 : decode b_Mo_fieldAt 7 = .ok (.invokevirtual 53, 3) := by decide +kernel
theorem d_Mo_fieldAt_10 : decode b_Mo_fieldAt 10 = .ok (.istore_n 3, 1) := by decide +kernel
theorem d_Mo_fieldAt_11 : decode b_Mo_fieldAt 11 = .ok (.aload_n 0, 1) := by decide +kernel
theorem d_Mo_fieldAt_12 : decode b_Mo_fieldAt 12 = .ok (.iload_n 3, 1) := by decide +kernel
theorem d_Mo_fieldAt_13 : decode b_Mo_fieldAt 13 = .ok (.ifCond .ge 7, 3) := by decide +kernel
theorem d_Mo_fieldAt_16 : decode b_Mo_fieldAt 16 = .ok (.iconst 2, 1) := by decide +kernel
theorem d_Mo_fieldAt_17 : decode b_Mo_fieldAt 17 = .ok (.goto 22, 3) := by decide +kernel
theorem d_Mo_fieldAt_20 : decode b_Mo_fieldAt 20 = .ok (.iload_n 2, 1) := by decide +kernel
theorem d_Mo_fieldAt_21 : decode b_Mo_fieldAt 21 = .ok (.ifCond .lt 13, 3) := by decide +kernel
theorem d_Mo_fieldAt_24 : decode b_Mo_fieldAt 24 = .ok (.iload_n 2, 1) := by decide +kernel
theorem d_Mo_fieldAt_25 : decode b_Mo_fieldAt 25 = .ok (.aload_n 0, 1) := by decide +kernel
theorem d_Mo_fieldAt_26 : decode b_Mo_fieldAt 26 = .ok (.getfield 19, 3) := by decide +kernel
theorem d_Mo_fieldAt_29 : decode b_Mo_fieldAt 29 = .ok (.iload_n 3, 1) := by decide +kernel
theorem d_Mo_fieldAt_30 : decode b_Mo_fieldAt 30 = .ok (.iaload, 1) := by decide +kernel
theorem d_Mo_fieldAt_31 : decode b_Mo_fieldAt 31 = .ok (.if_icmp .lt 7, 3) := by decide +kernel
theorem d_Mo_fieldAt_34 : decode b_Mo_fieldAt 34 = .ok (.iconst 3, 1) := by decide +kernel
theorem d_Mo_fieldAt_35 : decode b_Mo_fieldAt 35 = .ok (.goto 4, 3) := by decide +kernel
theorem d_Mo_fieldAt_38 : decode b_Mo_fieldAt 38 = .ok (.iconst 0, 1) := by decide +kernel
theorem d_Mo_fieldAt_39 : decode b_Mo_fieldAt 39 = .ok (.putfield 35, 3) := by decide +kernel
theorem d_Mo_fieldAt_42 : decode b_Mo_fieldAt 42 = .ok (.aload_n 0, 1) := by decide +kernel
theorem d_Mo_fieldAt_43 : decode b_Mo_fieldAt 43 = .ok (.getfield 35, 3) := by decide +kernel
theorem d_Mo_fieldAt_46 : decode b_Mo_fieldAt 46 = .ok (.ifCond .le 7, 3) := by decide +kernel
theorem d_Mo_fieldAt_49 : decode b_Mo_fieldAt 49 = .ok (.iconst (-1), 1) := by decide +kernel
theorem d_Mo_fieldAt_50 : decode b_Mo_fieldAt 50 = .ok (.goto 8, 3) := by decide +kernel
theorem d_Mo_fieldAt_53 : decode b_Mo_fieldAt 53 = .ok (.iconst 4, 1) := by decide +kernel
theorem d_Mo_fieldAt_54 : decode b_Mo_fieldAt 54 = .ok (.iload_n 3, 1) := by decide +kernel
theorem d_Mo_fieldAt_55 : decode b_Mo_fieldAt 55 = .ok (.imul, 1) := by decide +kernel
theorem d_Mo_fieldAt_56 : decode b_Mo_fieldAt 56 = .ok (.iload_n 2, 1) := by decide +kernel
theorem d_Mo_fieldAt_57 : decode b_Mo_fieldAt 57 = .ok (.iadd, 1) := by decide +kernel
theorem d_Mo_fieldAt_58 : decode b_Mo_fieldAt 58 = .ok (.ireturn, 1) := by decide +kernel
theorem d_Mo_find_0 : decode b_Mo_find 0 = .ok (.iconst (-1), 1) := by decide +kernel
theorem d_Mo_find_1 : decode b_Mo_find 1 = .ok (.istore_n 2, 1) := by decide +kernel
theorem d_Mo_find_2 : decode b_Mo_find 2 = .ok (.iconst 0, 1) := by decide +kernel
theorem d_Mo_find_3 : decode b_Mo_find 3 = .ok (.istore_n 3, 1) := by decide +kernel
theorem d_Mo_find_4 : decode b_Mo_find 4 = .ok (.iload_n 3, 1) := by decide +kernel
theorem d_Mo_find_5 : decode b_Mo_find 5 = .ok (.aload_n 0, 1) := by decide +kernel
theorem d_Mo_find_6 : decode b_Mo_find 6 = .ok (.getfield 39, 3) := by decide +kernel
theorem d_Mo_find_9 : decode b_Mo_find 9 = .ok (.if_icmp .ge 25, 3) := by decide +kernel
theorem d_Mo_find_12 : decode b_Mo_find 12 = .ok (.aload_n 0, 1) := by decide +kernel
theorem d_Mo_find_13 : decode b_Mo_find 13 = .ok (.getfield 7, 3) := by decide +kernel
theorem d_Mo_find_16 : decode b_Mo_find 16 = .ok (.iload_n 3, 1) := by decide +kernel
theorem d_Mo_find_17 : decode b_Mo_find 17 = .ok (.iaload, 1) := by decide +kernel
theorem d_Mo_find_18 : decode b_Mo_find 18 = .ok (.iload_n 1, 1) := by decide +kernel
theorem d_Mo_find_19 : decode b_Mo_find 19 = .ok (.if_icmp .ne 7, 3) := by decide +kernel
theorem d_Mo_find_22 : decode b_Mo_find 22 = .ok (.iload_n 3, 1) := by decide +kernel
theorem d_Mo_find_23 : decode b_Mo_find 23 = .ok (.goto 4, 3) := by decide +kernel
theorem d_Mo_find_26 : decode b_Mo_find 26 = .ok (.iload_n 2, 1) := by decide +kernel
theorem d_Mo_find_27 : decode b_Mo_find 27 = .ok (.istore_n 2, 1) := by decide +kernel
theorem d_Mo_find_28 : decode b_Mo_find 28 = .ok (.iinc 3 1, 3) := by decide +kernel
theorem d_Mo_find_31 : decode b_Mo_find 31 = .ok (.goto (-27), 3) := by decide +kernel
theorem d_Mo_find_34 : decode b_Mo_find 34 = .ok (.iload_n 2, 1) := by decide +kernel
theorem d_Mo_find_35 : decode b_Mo_find 35 = .ok (.ireturn, 1) := by decide +kernel
theorem d_Mo_get_0 : decode b_Mo_get 0 = .ok (.aload_n 0, 1) := by decide +kernel
theorem d_Mo_get_1 : decode b_Mo_get 1 = .ok (.iload_n 1, 1) := by decide +kernel
theorem d_Mo_get_2 : decode b_Mo_get 2 = .ok (.invokestatic 42, 3) := by decide +kernel
theorem d_Mo_get_5 : decode b_Mo_get 5 = .ok (.ifCond .eq 14, 3) := by decide +kernel
theorem d_Mo_get_8 : decode b_Mo_get 8 = .ok (.iload_n 3, 1) := by decide +kernel
theorem d_Mo_get_9 : decode b_Mo_get 9 = .ok (.invokestatic 42, 3) := by decide +kernel
theorem d_Mo_get_12 : decode b_Mo_get 12 = .ok (.ifCond .eq 7, 3) := by decide +kernel
theorem d_Mo_get_15 : decode b_Mo_get 15 = .ok (.iconst 0, 1) := by decide +kernel
theorem d_Mo_get_16 : decode b_Mo_get 16 = .ok (.goto 4, 3) := by decide +kernel
theorem d_Mo_get_19 : decode b_Mo_get 19 = .ok (.iconst 1, 1) := by decide +kernel
theorem d_Mo_get_20 : decode b_Mo_get 20 = .ok (.putfield 35, 3) := by decide +kernel
theorem d_Mo_get_23 : decode b_Mo_get 23 = .ok (.aload_n 0, 1) := by decide +kernel
theorem d_Mo_get_24 : decode b_Mo_get 24 = .ok (.getfield 35, 3) := by decide +kernel
theorem d_Mo_get_27 : decode b_Mo_get 27 = .ok (.ifCond .le 7, 3) := by decide +kernel
theorem d_Mo_get_30 : decode b_Mo_get 30 = .ok (.iconst (-1), 1) := by decide +kernel
theorem d_Mo_get_31 : decode b_Mo_get 31 = .ok (.goto 9, 3) := by decide +kernel
theorem d_Mo_get_34 : decode b_Mo_get 34 = .ok (.aload_n 0, 1) := by decide +kernel
theorem d_Mo_get_35 : decode b_Mo_get 35 = .ok (.iload_n 1, 1) := by decide +kernel
theorem d_Mo_get_36 : decode b_Mo_get 36 = .ok (.iload_n 2, 1) := by decide +kernel
theorem d_Mo_get_37 : decode b_Mo_get 37 = .ok (.invokevirtual 57, 3) := by decide +kernel
theorem d_Mo_get_40 : decode b_Mo_get 40 = .ok (.istore 4, 2) := by decide +kernel
theorem d_Mo_get_42 : decode b_Mo_get 42 = .ok (.iload 4, 2) := by decide +kernel
theorem d_Mo_get_44 : decode b_Mo_get 44 = .ok (.ifCond .lt 16, 3) := by decide +kernel
theorem d_Mo_get_47 : decode b_Mo_get 47 = .ok (.aload_n 0, 1) := by decide +kernel
theorem d_Mo_get_48 : decode b_Mo_get 48 = .ok (.getfield 29, 3) := by decide +kernel
theorem d_Mo_get_51 : decode b_Mo_get 51 = .ok (.iload_n 3, 1) := by decide +kernel
theorem d_Mo_get_52 : decode b_Mo_get 52 = .ok (.aload_n 0, 1) := by decide +kernel
theorem d_Mo_get_53 : decode b_Mo_get 53 = .ok (.getfield 22, 3) := by decide +kernel
theorem d_Mo_get_56 : decode b_Mo_get 56 = .ok (.iload 4, 2) := by decide +kernel
theorem d_Mo_get_58 : decode b_Mo_get 58 = .ok (.iaload, 1) := by decide +kernel
theorem d_Mo_get_59 : decode b_Mo_get 59 = .ok (.iastore, 1) := by decide +kernel
theorem d_Mo_get_60 : decode b_Mo_get 60 = .ok (.return_, 1) := by decide +kernel
theorem d_Mo_copy_0 : decode b_Mo_copy 0 = .ok (.aload_n 0, 1) := by decide +kernel
theorem d_Mo_copy_1 : decode b_Mo_copy 1 = .ok (.iload_n 1, 1) := by decide +kernel
theorem d_Mo_copy_2 : decode b_Mo_copy 2 = .ok (.invokestatic 42, 3) := by decide +kernel
theorem d_Mo_copy_5 : decode b_Mo_copy 5 = .ok (.ifCond .eq 14, 3) := by decide +kernel
theorem d_Mo_copy_8 : decode b_Mo_copy 8 = .ok (.iload_n 2, 1) := by decide +kernel
theorem d_Mo_copy_9 : decode b_Mo_copy 9 = .ok (.invokestatic 42, 3) := by decide +kernel
theorem d_Mo_copy_12 : decode b_Mo_copy 12 = .ok (.ifCond .eq 7, 3) := by decide +kernel
theorem d_Mo_copy_15 : decode b_Mo_copy 15 = .ok (.iconst 0, 1) := by decide +kernel
theorem d_Mo_copy_16 : decode b_Mo_copy 16 = .ok (.goto 4, 3) := by decide +kernel
theorem d_Mo_copy_19 : decode b_Mo_copy 19 = .ok (.iconst 1, 1) := by decide +kernel
theorem d_Mo_copy_20 : decode b_Mo_copy 20 = .ok (.putfield 35, 3) := by decide +kernel
theorem d_Mo_copy_23 : decode b_Mo_copy 23 = .ok (.aload_n 0, 1) := by decide +kernel
theorem d_Mo_copy_24 : decode b_Mo_copy 24 = .ok (.getfield 35, 3) := by decide +kernel
theorem d_Mo_copy_27 : decode b_Mo_copy 27 = .ok (.ifCond .ne 15, 3) := by decide +kernel
theorem d_Mo_copy_30 : decode b_Mo_copy 30 = .ok (.aload_n 0, 1) := by decide +kernel
theorem d_Mo_copy_31 : decode b_Mo_copy 31 = .ok (.getfield 29, 3) := by decide +kernel
theorem d_Mo_copy_34 : decode b_Mo_copy 34 = .ok (.iload_n 2, 1) := by decide +kernel
theorem d_Mo_copy_35 : decode b_Mo_copy 35 = .ok (.aload_n 0, 1) := by decide +kernel
theorem d_Mo_copy_36 : decode b_Mo_copy 36 = .ok (.getfield 29, 3) := by decide +kernel
theorem d_Mo_copy_39 : decode b_Mo_copy 39 = .ok (.iload_n 1, 1) := by decide +kernel
theorem d_Mo_copy_40 : decode b_Mo_copy 40 = .ok (.iaload, 1) := by decide +kernel
theorem d_Mo_copy_41 : decode b_Mo_copy 41 = .ok (.iastore, 1) := by decide +kernel
theorem d_Mo_copy_42 : decode b_Mo_copy 42 = .ok (.return_, 1) := by decide +kernel
theorem d_Mo_clear_0 : decode b_Mo_clear 0 = .ok (.aload_n 0, 1) := by decide +kernel
theorem d_Mo_clear_1 : decode b_Mo_clear 1 = .ok (.iload_n 1, 1) := by decide +kernel
theorem d_Mo_clear_2 : decode b_Mo_clear 2 = .ok (.invokestatic 42, 3) := by decide +kernel
theorem d_Mo_clear_5 : decode b_Mo_clear 5 = .ok (.ifCond .eq 7, 3) := by decide +kernel
theorem d_Mo_clear_8 : decode b_Mo_clear 8 = .ok (.iconst 0, 1) := by decide +kernel
theorem d_Mo_clear_9 : decode b_Mo_clear 9 = .ok (.goto 4, 3) := by decide +kernel
theorem d_Mo_clear_12 : decode b_Mo_clear 12 = .ok (.iconst 1, 1) := by decide +kernel
theorem d_Mo_clear_13 : decode b_Mo_clear 13 = .ok (.putfield 35, 3) := by decide +kernel
theorem d_Mo_clear_16 : decode b_Mo_clear 16 = .ok (.aload_n 0, 1) := by decide +kernel
theorem d_Mo_clear_17 : decode b_Mo_clear 17 = .ok (.getfield 35, 3) := by decide +kernel
theorem d_Mo_clear_20 : decode b_Mo_clear 20 = .ok (.ifCond .le 5, 3) := by decide +kernel
theorem d_Mo_clear_23 : decode b_Mo_clear 23 = .ok (.iconst 0, 1) := by decide +kernel
theorem d_Mo_clear_24 : decode b_Mo_clear 24 = .ok (.ireturn, 1) := by decide +kernel
theorem d_Mo_clear_25 : decode b_Mo_clear 25 = .ok (.aload_n 0, 1) := by decide +kernel
theorem d_Mo_clear_26 : decode b_Mo_clear 26 = .ok (.getfield 29, 3) := by decide +kernel
theorem d_Mo_clear_29 : decode b_Mo_clear 29 = .ok (.iload_n 1, 1) := by decide +kernel
theorem d_Mo_clear_30 : decode b_Mo_clear 30 = .ok (.iaload, 1) := by decide +kernel
theorem d_Mo_clear_31 : decode b_Mo_clear 31 = .ok (.ifCond .lt 7, 3) := by decide +kernel
theorem d_Mo_clear_34 : decode b_Mo_clear 34 = .ok (.iconst 1, 1) := by decide +kernel
theorem d_Mo_clear_35 : decode b_Mo_clear 35 = .ok (.goto 4, 3) := by decide +kernel
theorem d_Mo_clear_38 : decode b_Mo_clear 38 = .ok (.iconst 0, 1) := by decide +kernel
theorem d_Mo_clear_39 : decode b_Mo_clear 39 = .ok (.istore_n 2, 1) := by decide +kernel
theorem d_Mo_clear_40 : decode b_Mo_clear 40 = .ok (.aload_n 0, 1) := by decide +kernel
theorem d_Mo_clear_41 : decode b_Mo_clear 41 = .ok (.getfield 29, 3) := by decide +kernel
theorem d_Mo_clear_44 : decode b_Mo_clear 44 = .ok (.iload_n 1, 1) := by decide +kernel
theorem d_Mo_clear_45 : decode b_Mo_clear 45 = .ok (.iconst (-1), 1) := by decide +kernel
theorem d_Mo_clear_46 : decode b_Mo_clear 46 = .ok (.iastore, 1) := by decide +kernel
theorem d_Mo_clear_47 : decode b_Mo_clear 47 = .ok (.iload_n 2, 1) := by decide +kernel
theorem d_Mo_clear_48 : decode b_Mo_clear 48 = .ok (.ireturn, 1) := by decide +kernel
theorem d_Mo_write_0 : decode b_Mo_write 0 = .ok (.aload_n 0, 1) := by decide +kernel
theorem d_Mo_write_1 : decode b_Mo_write 1 = .ok (.iload_n 1, 1) := by decide +kernel
theorem d_Mo_write_2 : decode b_Mo_write 2 = .ok (.invokestatic 42, 3) := by decide +kernel
theorem d_Mo_write_5 : decode b_Mo_write 5 = .ok (.ifCond .ne 7, 3) := by decide +kernel
theorem d_Mo_write_8 : decode b_Mo_write 8 = .ok (.iconst 1, 1) := by decide +kernel
theorem d_Mo_write_9 : decode b_Mo_write 9 = .ok (.goto 17, 3) := by decide +kernel
theorem d_Mo_write_12 : decode b_Mo_write 12 = .ok (.aload_n 0, 1) := by decide +kernel
theorem d_Mo_write_13 : decode b_Mo_write 13 = .ok (.getfield 29, 3) := by decide +kernel
theorem d_Mo_write_16 : decode b_Mo_write 16 = .ok (.iload_n 1, 1) := by decide +kernel
theorem d_Mo_write_17 : decode b_Mo_write 17 = .ok (.iaload, 1) := by decide +kernel
theorem d_Mo_write_18 : decode b_Mo_write 18 = .ok (.ifCond .ge 7, 3) := by decide +kernel
theorem d_Mo_write_21 : decode b_Mo_write 21 = .ok (.iconst 2, 1) := by decide +kernel
theorem d_Mo_write_22 : decode b_Mo_write 22 = .ok (.goto 4, 3) := by decide +kernel
theorem d_Mo_write_25 : decode b_Mo_write 25 = .ok (.iconst 0, 1) := by decide +kernel
theorem d_Mo_write_26 : decode b_Mo_write 26 = .ok (.putfield 35, 3) := by decide +kernel
theorem d_Mo_write_29 : decode b_Mo_write 29 = .ok (.aload_n 0, 1) := by decide +kernel
theorem d_Mo_write_30 : decode b_Mo_write 30 = .ok (.getfield 35, 3) := by decide +kernel
theorem d_Mo_write_33 : decode b_Mo_write 33 = .ok (.ifCond .le 5, 3) := by decide +kernel
theorem d_Mo_write_36 : decode b_Mo_write 36 = .ok (.iconst 0, 1) := by decide +kernel
theorem d_Mo_write_37 : decode b_Mo_write 37 = .ok (.ireturn, 1) := by decide +kernel
theorem d_Mo_write_38 : decode b_Mo_write 38 = .ok (.aload_n 0, 1) := by decide +kernel
theorem d_Mo_write_39 : decode b_Mo_write 39 = .ok (.aload_n 0, 1) := by decide +kernel
theorem d_Mo_write_40 : decode b_Mo_write 40 = .ok (.getfield 29, 3) := by decide +kernel
theorem d_Mo_write_43 : decode b_Mo_write 43 = .ok (.iload_n 1, 1) := by decide +kernel
theorem d_Mo_write_44 : decode b_Mo_write 44 = .ok (.iaload, 1) := by decide +kernel
theorem d_Mo_write_45 : decode b_Mo_write 45 = .ok (.invokevirtual 53, 3) := by decide +kernel
theorem d_Mo_write_48 : decode b_Mo_write 48 = .ok (.istore_n 3, 1) := by decide +kernel
theorem d_Mo_write_49 : decode b_Mo_write 49 = .ok (.aload_n 0, 1) := by decide +kernel
theorem d_Mo_write_50 : decode b_Mo_write 50 = .ok (.getfield 13, 3) := by decide +kernel
theorem d_Mo_write_53 : decode b_Mo_write 53 = .ok (.iload_n 3, 1) := by decide +kernel
theorem d_Mo_write_54 : decode b_Mo_write 54 = .ok (.iaload, 1) := by decide +kernel
theorem d_Mo_write_55 : decode b_Mo_write 55 = .ok (.istore 4, 2) := by decide +kernel
theorem d_Mo_write_57 : decode b_Mo_write 57 = .ok (.aload_n 0, 1) := by decide +kernel
theorem d_Mo_write_58 : decode b_Mo_write 58 = .ok (.getfield 13, 3) := by decide +kernel
theorem d_Mo_write_61 : decode b_Mo_write 61 = .ok (.iload_n 3, 1) := by decide +kernel
theorem d_Mo_write_62 : decode b_Mo_write 62 = .ok (.iload_n 2, 1) := by decide +kernel
theorem d_Mo_write_63 : decode b_Mo_write 63 = .ok (.iastore, 1) := by decide +kernel
theorem d_Mo_write_64 : decode b_Mo_write 64 = .ok (.iload 4, 2) := by decide +kernel
theorem d_Mo_write_66 : decode b_Mo_write 66 = .ok (.ireturn, 1) := by decide +kernel
theorem d_Mo_watch_0 : decode b_Mo_watch 0 = .ok (.aload_n 0, 1) := by decide +kernel
theorem d_Mo_watch_1 : decode b_Mo_watch 1 = .ok (.iload_n 1, 1) := by decide +kernel
theorem d_Mo_watch_2 : decode b_Mo_watch 2 = .ok (.invokestatic 61, 3) := by decide +kernel
theorem d_Mo_watch_5 : decode b_Mo_watch 5 = .ok (.ifCond .eq 14, 3) := by decide +kernel
theorem d_Mo_watch_8 : decode b_Mo_watch 8 = .ok (.iload_n 2, 1) := by decide +kernel
theorem d_Mo_watch_9 : decode b_Mo_watch 9 = .ok (.invokestatic 42, 3) := by decide +kernel
theorem d_Mo_watch_12 : decode b_Mo_watch 12 = .ok (.ifCond .eq 7, 3) := by decide +kernel
theorem d_Mo_watch_15 : decode b_Mo_watch 15 = .ok (.iconst 0, 1) := by decide +kernel
theorem d_Mo_watch_16 : decode b_Mo_watch 16 = .ok (.goto 4, 3) := by decide +kernel
theorem d_Mo_watch_19 : decode b_Mo_watch 19 = .ok (.iconst 1, 1) := by decide +kernel
theorem d_Mo_watch_20 : decode b_Mo_watch 20 = .ok (.putfield 35, 3) := by decide +kernel
theorem d_Mo_watch_23 : decode b_Mo_watch 23 = .ok (.aload_n 0, 1) := by decide +kernel
theorem d_Mo_watch_24 : decode b_Mo_watch 24 = .ok (.getfield 35, 3) := by decide +kernel
theorem d_Mo_watch_27 : decode b_Mo_watch 27 = .ok (.ifCond .ne 15, 3) := by decide +kernel
theorem d_Mo_watch_30 : decode b_Mo_watch 30 = .ok (.aload_n 0, 1) := by decide +kernel
theorem d_Mo_watch_31 : decode b_Mo_watch 31 = .ok (.getfield 32, 3) := by decide +kernel
theorem d_Mo_watch_34 : decode b_Mo_watch 34 = .ok (.iload_n 1, 1) := by decide +kernel
theorem d_Mo_watch_35 : decode b_Mo_watch 35 = .ok (.aload_n 0, 1) := by decide +kernel
theorem d_Mo_watch_36 : decode b_Mo_watch 36 = .ok (.getfield 29, 3) := by decide +kernel
theorem d_Mo_watch_39 : decode b_Mo_watch 39 = .ok (.iload_n 2, 1) := by decide +kernel
theorem d_Mo_watch_40 : decode b_Mo_watch 40 = .ok (.iaload, 1) := by decide +kernel
theorem d_Mo_watch_41 : decode b_Mo_watch 41 = .ok (.iastore, 1) := by decide +kernel
theorem d_Mo_watch_42 : decode b_Mo_watch 42 = .ok (.return_, 1) := by decide +kernel
theorem d_Mo_isWeak_0 : decode b_Mo_isWeak 0 = .ok (.iload_n 0, 1) := by decide +kernel
theorem d_Mo_isWeak_1 : decode b_Mo_isWeak 1 = .ok (.ifCond .lt 12, 3) := by decide +kernel
theorem d_Mo_isWeak_4 : decode b_Mo_isWeak 4 = .ok (.iload_n 0, 1) := by decide +kernel
theorem d_Mo_isWeak_5 : decode b_Mo_isWeak 5 = .ok (.iconst 4, 1) := by decide +kernel
theorem d_Mo_isWeak_6 : decode b_Mo_isWeak 6 = .ok (.if_icmp .ge 7, 3) := by decide +kernel
theorem d_Mo_isWeak_9 : decode b_Mo_isWeak 9 = .ok (.iconst 1, 1) := by decide +kernel
theorem d_Mo_isWeak_10 : decode b_Mo_isWeak 10 = .ok (.goto 4, 3) := by decide +kernel
theorem d_Mo_isWeak_13 : decode b_Mo_isWeak 13 = .ok (.iconst 0, 1) := by decide +kernel
theorem d_Mo_isWeak_14 : decode b_Mo_isWeak 14 = .ok (.ireturn, 1) := by decide +kernel
theorem d_Mo_revive_0 : decode b_Mo_revive 0 = .ok (.aload_n 0, 1) := by decide +kernel
theorem d_Mo_revive_1 : decode b_Mo_revive 1 = .ok (.iload_n 1, 1) := by decide +kernel
theorem d_Mo_revive_2 : decode b_Mo_revive 2 = .ok (.invokestatic 61, 3) := by decide +kernel
theorem d_Mo_revive_5 : decode b_Mo_revive 5 = .ok (.ifCond .eq 14, 3) := by decide +kernel
theorem d_Mo_revive_8 : decode b_Mo_revive 8 = .ok (.iload_n 2, 1) := by decide +kernel
theorem d_Mo_revive_9 : decode b_Mo_revive 9 = .ok (.invokestatic 42, 3) := by decide +kernel
theorem d_Mo_revive_12 : decode b_Mo_revive 12 = .ok (.ifCond .eq 7, 3) := by decide +kernel
theorem d_Mo_revive_15 : decode b_Mo_revive 15 = .ok (.iconst 0, 1) := by decide +kernel
theorem d_Mo_revive_16 : decode b_Mo_revive 16 = .ok (.goto 4, 3) := by decide +kernel
theorem d_Mo_revive_19 : decode b_Mo_revive 19 = .ok (.iconst 1, 1) := by decide +kernel
theorem d_Mo_revive_20 : decode b_Mo_revive 20 = .ok (.putfield 35, 3) := by decide +kernel
theorem d_Mo_revive_23 : decode b_Mo_revive 23 = .ok (.aload_n 0, 1) := by decide +kernel
theorem d_Mo_revive_24 : decode b_Mo_revive 24 = .ok (.getfield 35, 3) := by decide +kernel
theorem d_Mo_revive_27 : decode b_Mo_revive 27 = .ok (.ifCond .ne 15, 3) := by decide +kernel
theorem d_Mo_revive_30 : decode b_Mo_revive 30 = .ok (.aload_n 0, 1) := by decide +kernel
theorem d_Mo_revive_31 : decode b_Mo_revive 31 = .ok (.getfield 29, 3) := by decide +kernel
