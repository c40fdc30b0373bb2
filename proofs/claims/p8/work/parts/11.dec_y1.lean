theorem d_Y_init_0 : decode prog_1_method_1_code 0 = .ok (.aload_n 0, 1) := by decide +kernel
theorem d_Y_init_1 : decode prog_1_method_1_code 1 = .ok (.invokespecial 3, 3) := by decide +kernel
theorem d_Y_init_4 : decode prog_1_method_1_code 4 = .ok (.aload_n 0, 1) := by decide +kernel
theorem d_Y_init_5 : decode prog_1_method_1_code 5 = .ok (.new 9, 3) := by decide +kernel
theorem d_Y_init_8 : decode prog_1_method_1_code 8 = .ok (.dup, 1) := by decide +kernel
theorem d_Y_init_9 : decode prog_1_method_1_code 9 = .ok (.invokespecial 11, 3) := by decide +kernel
theorem d_Y_init_12 : decode prog_1_method_1_code 12 = .ok (.putfield 12, 3) := by decide +kernel
theorem d_Y_init_15 : decode prog_1_method_1_code 15 = .ok (.aload_n 0, 1) := by decide +kernel
theorem d_Y_init_16 : decode prog_1_method_1_code 16 = .ok (.bipush 6, 2) := by decide +kernel
theorem d_Y_init_18 : decode prog_1_method_1_code 18 = .ok (.anewarray 9, 3) := by decide +kernel
theorem d_Y_init_21 : decode prog_1_method_1_code 21 = .ok (.putfield 16, 3) := by decide +kernel
theorem d_Y_init_24 : decode prog_1_method_1_code 24 = .ok (.aload_n 0, 1) := by decide +kernel
theorem d_Y_init_25 : decode prog_1_method_1_code 25 = .ok (.iconst 0, 1) := by decide +kernel
theorem d_Y_init_26 : decode prog_1_method_1_code 26 = .ok (.putfield 20, 3) := by decide +kernel
theorem d_Y_init_29 : decode prog_1_method_1_code 29 = .ok (.aload_n 0, 1) := by decide +kernel
theorem d_Y_init_30 : decode prog_1_method_1_code 30 = .ok (.bipush 12, 2) := by decide +kernel
theorem d_Y_init_32 : decode prog_1_method_1_code 32 = .ok (.anewarray 24, 3) := by decide +kernel
theorem d_Y_init_35 : decode prog_1_method_1_code 35 = .ok (.putfield 26, 3) := by decide +kernel
theorem d_Y_init_38 : decode prog_1_method_1_code 38 = .ok (.aload_n 0, 1) := by decide +kernel
theorem d_Y_init_39 : decode prog_1_method_1_code 39 = .ok (.iconst 0, 1) := by decide +kernel
theorem d_Y_init_40 : decode prog_1_method_1_code 40 = .ok (.putfield 30, 3) := by decide +kernel
theorem d_Y_init_43 : decode prog_1_method_1_code 43 = .ok (.aload_n 0, 1) := by decide +kernel
theorem d_Y_init_44 : decode prog_1_method_1_code 44 = .ok (.iconst 3, 1) := by decide +kernel
theorem d_Y_init_45 : decode prog_1_method_1_code 45 = .ok (.anewarray 33, 3) := by decide +kernel
theorem d_Y_init_48 : decode prog_1_method_1_code 48 = .ok (.dup, 1) := by decide +kernel
theorem d_Y_init_49 : decode prog_1_method_1_code 49 = .ok (.iconst 0, 1) := by decide +kernel
theorem d_Y_init_50 : decode prog_1_method_1_code 50 = .ok (.new 33, 3) := by decide +kernel
theorem d_Y_init_53 : decode prog_1_method_1_code 53 = .ok (.dup, 1) := by decide +kernel
theorem d_Y_init_54 : decode prog_1_method_1_code 54 = .ok (.iconst 0, 1) := by decide +kernel
theorem d_Y_init_55 : decode prog_1_method_1_code 55 = .ok (.invokespecial 35, 3) := by decide +kernel
theorem d_Y_init_58 : decode prog_1_method_1_code 58 = .ok (.aastore, 1) := by decide +kernel
theorem d_Y_init_59 : decode prog_1_method_1_code 59 = .ok (.dup, 1) := by decide +kernel
theorem d_Y_init_60 : decode prog_1_method_1_code 60 = .ok (.iconst 1, 1) := by decide +kernel
theorem d_Y_init_61 : decode prog_1_method_1_code 61 = .ok (.new 33, 3) := by decide +kernel
theorem d_Y_init_64 : decode prog_1_method_1_code 64 = .ok (.dup, 1) := by decide +kernel
theorem d_Y_init_65 : decode prog_1_method_1_code 65 = .ok (.iconst 1, 1) := by decide +kernel
theorem d_Y_init_66 : decode prog_1_method_1_code 66 = .ok (.invokespecial 35, 3) := by decide +kernel
theorem d_Y_init_69 : decode prog_1_method_1_code 69 = .ok (.aastore, 1) := by decide +kernel
theorem d_Y_init_70 : decode prog_1_method_1_code 70 = .ok (.dup, 1) := by decide +kernel
theorem d_Y_init_71 : decode prog_1_method_1_code 71 = .ok (.iconst 2, 1) := by decide +kernel
theorem d_Y_init_72 : decode prog_1_method_1_code 72 = .ok (.new 33, 3) := by decide +kernel
theorem d_Y_init_75 : decode prog_1_method_1_code 75 = .ok (.dup, 1) := by decide +kernel
theorem d_Y_init_76 : decode prog_1_method_1_code 76 = .ok (.iconst 2, 1) := by decide +kernel
theorem d_Y_init_77 : decode prog_1_method_1_code 77 = .ok (.invokespecial 35, 3) := by decide +kernel
theorem d_Y_init_80 : decode prog_1_method_1_code 80 = .ok (.aastore, 1) := by decide +kernel
theorem d_Y_init_81 : decode prog_1_method_1_code 81 = .ok (.putfield 38, 3) := by decide +kernel
theorem d_Y_init_84 : decode prog_1_method_1_code 84 = .ok (.aload_n 0, 1) := by decide +kernel
theorem d_Y_init_85 : decode prog_1_method_1_code 85 = .ok (.new 42, 3) := by decide +kernel
theorem d_Y_init_88 : decode prog_1_method_1_code 88 = .ok (.dup, 1) := by decide +kernel
theorem d_Y_init_89 : decode prog_1_method_1_code 89 = .ok (.bipush 12, 2) := by decide +kernel
theorem d_Y_init_91 : decode prog_1_method_1_code 91 = .ok (.invokespecial 44, 3) := by decide +kernel
theorem d_Y_init_94 : decode prog_1_method_1_code 94 = .ok (.putfield 45, 3) := by decide +kernel
theorem d_Y_init_97 : decode prog_1_method_1_code 97 = .ok (.aload_n 0, 1) := by decide +kernel
theorem d_Y_init_98 : decode prog_1_method_1_code 98 = .ok (.new 42, 3) := by decide +kernel
theorem d_Y_init_101 : decode prog_1_method_1_code 101 = .ok (.dup, 1) := by decide +kernel
theorem d_Y_init_102 : decode prog_1_method_1_code 102 = .ok (.bipush 12, 2) := by decide +kernel
theorem d_Y_init_104 : decode prog_1_method_1_code 104 = .ok (.invokespecial 44, 3) := by decide +kernel
theorem d_Y_init_107 : decode prog_1_method_1_code 107 = .ok (.putfield 49, 3) := by decide +kernel
theorem d_Y_init_110 : decode prog_1_method_1_code 110 = .ok (.aload_n 0, 1) := by decide +kernel
theorem d_Y_init_111 : decode prog_1_method_1_code 111 = .ok (.iconst 2, 1) := by decide +kernel
theorem d_Y_init_112 : decode prog_1_method_1_code 112 = .ok (.anewarray 52, 3) := by decide +kernel
theorem d_Y_init_115 : decode prog_1_method_1_code 115 = .ok (.dup, 1) := by decide +kernel
theorem d_Y_init_116 : decode prog_1_method_1_code 116 = .ok (.iconst 0, 1) := by decide +kernel
theorem d_Y_init_117 : decode prog_1_method_1_code 117 = .ok (.new 52, 3) := by decide +kernel
theorem d_Y_init_120 : decode prog_1_method_1_code 120 = .ok (.dup, 1) := by decide +kernel
theorem d_Y_init_121 : decode prog_1_method_1_code 121 = .ok (.invokespecial 54, 3) := by decide +kernel
theorem d_Y_init_124 : decode prog_1_method_1_code 124 = .ok (.aastore, 1) := by decide +kernel
theorem d_Y_init_125 : decode prog_1_method_1_code 125 = .ok (.dup, 1) := by decide +kernel
theorem d_Y_init_126 : decode prog_1_method_1_code 126 = .ok (.iconst 1, 1) := by decide +kernel
theorem d_Y_init_127 : decode prog_1_method_1_code 127 = .ok (.new 52, 3) := by decide +kernel
theorem d_Y_init_130 : decode prog_1_method_1_code 130 = .ok (.dup, 1) := by decide +kernel
theorem d_Y_init_131 : decode prog_1_method_1_code 131 = .ok (.invokespecial 54, 3) := by decide +kernel
theorem d_Y_init_134 : decode prog_1_method_1_code 134 = .ok (.aastore, 1) := by decide +kernel
theorem d_Y_init_135 : decode prog_1_method_1_code 135 = .ok (.putfield 55, 3) := by decide +kernel
theorem d_Y_init_138 : decode prog_1_method_1_code 138 = .ok (.aload_n 0, 1) := by decide +kernel
theorem d_Y_init_139 : decode prog_1_method_1_code 139 = .ok (.iconst 2, 1) := by decide +kernel
theorem d_Y_init_140 : decode prog_1_method_1_code 140 = .ok (.anewarray 59, 3) := by decide +kernel
theorem d_Y_init_143 : decode prog_1_method_1_code 143 = .ok (.dup, 1) := by decide +kernel
theorem d_Y_init_144 : decode prog_1_method_1_code 144 = .ok (.iconst 0, 1) := by decide +kernel
theorem d_Y_init_145 : decode prog_1_method_1_code 145 = .ok (.new 59, 3) := by decide +kernel
theorem d_Y_init_148 : decode prog_1_method_1_code 148 = .ok (.dup, 1) := by decide +kernel
theorem d_Y_init_149 : decode prog_1_method_1_code 149 = .ok (.invokespecial 61, 3) := by decide +kernel
theorem d_Y_init_152 : decode prog_1_method_1_code 152 = .ok (.aastore, 1) := by decide +kernel
theorem d_Y_init_153 : decode prog_1_method_1_code 153 = .ok (.dup, 1) := by decide +kernel
theorem d_Y_init_154 : decode prog_1_method_1_code 154 = .ok (.iconst 1, 1) := by decide +kernel
theorem d_Y_init_155 : decode prog_1_method_1_code 155 = .ok (.new 59, 3) := by decide +kernel
theorem d_Y_init_158 : decode prog_1_method_1_code 158 = .ok (.dup, 1) := by decide +kernel
theorem d_Y_init_159 : decode prog_1_method_1_code 159 = .ok (.invokespecial 61, 3) := by decide +kernel
theorem d_Y_init_162 : decode prog_1_method_1_code 162 = .ok (.aastore, 1) := by decide +kernel
theorem d_Y_init_163 : decode prog_1_method_1_code 163 = .ok (.putfield 62, 3) := by decide +kernel
theorem d_Y_init_166 : decode prog_1_method_1_code 166 = .ok (.aload_n 0, 1) := by decide +kernel
theorem d_Y_init_167 : decode prog_1_method_1_code 167 = .ok (.iconst 0, 1) := by decide +kernel
theorem d_Y_init_168 : decode prog_1_method_1_code 168 = .ok (.putfield 66, 3) := by decide +kernel
theorem d_Y_init_171 : decode prog_1_method_1_code 171 = .ok (.aload_n 0, 1) := by decide +kernel
theorem d_Y_init_172 : decode prog_1_method_1_code 172 = .ok (.iconst 0, 1) := by decide +kernel
theorem d_Y_init_173 : decode prog_1_method_1_code 173 = .ok (.putfield 69, 3) := by decide +kernel
theorem d_Y_init_176 : decode prog_1_method_1_code 176 = .ok (.aload_n 0, 1) := by decide +kernel
theorem d_Y_init_177 : decode prog_1_method_1_code 177 = .ok (.iconst 0, 1) := by decide +kernel
theorem d_Y_init_178 : decode prog_1_method_1_code 178 = .ok (.putfield 72, 3) := by decide +kernel
theorem d_Y_init_181 : decode prog_1_method_1_code 181 = .ok (.aload_n 0, 1) := by decide +kernel
theorem d_Y_init_182 : decode prog_1_method_1_code 182 = .ok (.iconst 0, 1) := by decide +kernel
theorem d_Y_init_183 : decode prog_1_method_1_code 183 = .ok (.putfield 75, 3) := by decide +kernel
theorem d_Y_init_186 : decode prog_1_method_1_code 186 = .ok (.return_, 1) := by decide +kernel
theorem d_Y_token_0 : decode prog_1_method_2_code 0 = .ok (.iload_n 1, 1) := by decide +kernel
theorem d_Y_token_1 : decode prog_1_method_2_code 1 = .ok (.ifCond .lt 27, 3) := by decide +kernel
theorem d_Y_token_4 : decode prog_1_method_2_code 4 = .ok (.iload_n 1, 1) := by decide +kernel
theorem d_Y_token_5 : decode prog_1_method_2_code 5 = .ok (.bipush 16, 2) := by decide +kernel
theorem d_Y_token_7 : decode prog_1_method_2_code 7 = .ok (.if_icmp .ge 21, 3) := by decide +kernel
theorem d_Y_token_10 : decode prog_1_method_2_code 10 = .ok (.iload_n 2, 1) := by decide +kernel
theorem d_Y_token_11 : decode prog_1_method_2_code 11 = .ok (.getstatic 78, 3) := by decide +kernel
theorem d_Y_token_14 : decode prog_1_method_2_code 14 = .ok (.iload_n 1, 1) := by decide +kernel
theorem d_Y_token_15 : decode prog_1_method_2_code 15 = .ok (.iaload, 1) := by decide +kernel
theorem d_Y_token_16 : decode prog_1_method_2_code 16 = .ok (.if_icmp .lt 12, 3) := by decide +kernel
theorem d_Y_token_19 : decode prog_1_method_2_code 19 = .ok (.iload_n 2, 1) := by decide +kernel
theorem d_Y_token_20 : decode prog_1_method_2_code 20 = .ok (.getstatic 82, 3) := by decide +kernel
theorem d_Y_token_23 : decode prog_1_method_2_code 23 = .ok (.iload_n 1, 1) := by decide +kernel
theorem d_Y_token_24 : decode prog_1_method_2_code 24 = .ok (.iaload, 1) := by decide +kernel
theorem d_Y_token_25 : decode prog_1_method_2_code 25 = .ok (.if_icmp .le 5, 3) := by decide +kernel
theorem d_Y_token_28 : decode prog_1_method_2_code 28 = .ok (.iconst (-1), 1) := by decide +kernel
theorem d_Y_token_29 : decode prog_1_method_2_code 29 = .ok (.ireturn, 1) := by decide +kernel
theorem d_Y_token_30 : decode prog_1_method_2_code 30 = .ok (.aload_n 0, 1) := by decide +kernel
theorem d_Y_token_31 : decode prog_1_method_2_code 31 = .ok (.getfield 12, 3) := by decide +kernel
theorem d_Y_token_34 : decode prog_1_method_2_code 34 = .ok (.iload_n 1, 1) := by decide +kernel
theorem d_Y_token_35 : decode prog_1_method_2_code 35 = .ok (.iload_n 2, 1) := by decide +kernel
theorem d_Y_token_36 : decode prog_1_method_2_code 36 = .ok (.invokevirtual 85, 3) := by decide +kernel
theorem d_Y_token_39 : decode prog_1_method_2_code 39 = .ok (.ifCond .eq 13, 3) := by decide +kernel
theorem d_Y_token_42 : decode prog_1_method_2_code 42 = .ok (.aload_n 0, 1) := by decide +kernel
theorem d_Y_token_43 : decode prog_1_method_2_code 43 = .ok (.getfield 12, 3) := by decide +kernel
theorem d_Y_token_46 : decode prog_1_method_2_code 46 = .ok (.getfield 89, 3) := by decide +kernel
theorem d_Y_token_49 : decode prog_1_method_2_code 49 = .ok (.goto 5, 3) := by decide +kernel
theorem d_Y_token_52 : decode prog_1_method_2_code 52 = .ok (.bipush (-2), 2) := by decide +kernel
theorem d_Y_token_54 : decode prog_1_method_2_code 54 = .ok (.ireturn, 1) := by decide +kernel
theorem d_Y_define_0 : decode prog_1_method_3_code 0 = .ok (.aload_n 0, 1) := by decide +kernel
theorem d_Y_define_1 : decode prog_1_method_3_code 1 = .ok (.getfield 12, 3) := by decide +kernel
theorem d_Y_define_4 : decode prog_1_method_3_code 4 = .ok (.invokevirtual 92, 3) := by decide +kernel
theorem d_Y_define_7 : decode prog_1_method_3_code 7 = .ok (.ifCond .ne 5, 3) := by decide +kernel
theorem d_Y_define_10 : decode prog_1_method_3_code 10 = .ok (.iconst (-1), 1) := by decide +kernel
theorem d_Y_define_11 : decode prog_1_method_3_code 11 = .ok (.ireturn, 1) := by decide +kernel
theorem d_Y_define_12 : decode prog_1_method_3_code 12 = .ok (.aload_n 0, 1) := by decide +kernel
theorem d_Y_define_13 : decode prog_1_method_3_code 13 = .ok (.getfield 20, 3) := by decide +kernel
theorem d_Y_define_16 : decode prog_1_method_3_code 16 = .ok (.bipush 6, 2) := by decide +kernel
theorem d_Y_define_18 : decode prog_1_method_3_code 18 = .ok (.if_icmp .lt 6, 3) := by decide +kernel
theorem d_Y_define_21 : decode prog_1_method_3_code 21 = .ok (.bipush (-2), 2) := by decide +kernel
theorem d_Y_define_23 : decode prog_1_method_3_code 23 = .ok (.ireturn, 1) := by decide +kernel
theorem d_Y_define_24 : decode prog_1_method_3_code 24 = .ok (.aload_n 0, 1) := by decide +kernel
theorem d_Y_define_25 : decode prog_1_method_3_code 25 = .ok (.getfield 12, 3) := by decide +kernel
theorem d_Y_define_28 : decode prog_1_method_3_code 28 = .ok (.invokevirtual 96, 3) := by decide +kernel
theorem d_Y_define_31 : decode prog_1_method_3_code 31 = .ok (.aload_n 0, 1) := by decide +kernel
theorem d_Y_define_32 : decode prog_1_method_3_code 32 = .ok (.getfield 16, 3) := by decide +kernel
theorem d_Y_define_35 : decode prog_1_method_3_code 35 = .ok (.aload_n 0, 1) := by decide +kernel
theorem d_Y_define_36 : decode prog_1_method_3_code 36 = .ok (.getfield 20, 3) := by decide +kernel
theorem d_Y_define_39 : decode prog_1_method_3_code 39 = .ok (.aload_n 0, 1) := by decide +kernel
theorem d_Y_define_40 : decode prog_1_method_3_code 40 = .ok (.getfield 12, 3) := by decide +kernel
theorem d_Y_define_43 : decode prog_1_method_3_code 43 = .ok (.aastore, 1) := by decide +kernel
theorem d_Y_define_44 : decode prog_1_method_3_code 44 = .ok (.aload_n 0, 1) := by decide +kernel
theorem d_Y_define_45 : decode prog_1_method_3_code 45 = .ok (.new 9, 3) := by decide +kernel
theorem d_Y_define_48 : decode prog_1_method_3_code 48 = .ok (.dup, 1) := by decide +kernel
theorem d_Y_define_49 : decode prog_1_method_3_code 49 = .ok (.invokespecial 11, 3) := by decide +kernel
theorem d_Y_define_52 : decode prog_1_method_3_code 52 = .ok (.putfield 12, 3) := by decide +kernel
theorem d_Y_define_55 : decode prog_1_method_3_code 55 = .ok (.aload_n 0, 1) := by decide +kernel
theorem d_Y_define_56 : decode prog_1_method_3_code 56 = .ok (.dup, 1) := by decide +kernel
theorem d_Y_define_57 : decode prog_1_method_3_code 57 = .ok (.getfield 20, 3) := by decide +kernel
theorem d_Y_define_60 : decode prog_1_method_3_code 60 = .ok (.dup_x1, 1) := by decide +kernel
theorem d_Y_define_61 : decode prog_1_method_3_code 61 = .ok (.iconst 1, 1) := by decide +kernel
theorem d_Y_define_62 : decode prog_1_method_3_code 62 = .ok (.iadd, 1) := by decide +kernel
theorem d_Y_define_63 : decode prog_1_method_3_code 63 = .ok (.putfield 20, 3) := by decide +kernel
theorem d_Y_define_66 : decode prog_1_method_3_code 66 = .ok (.ireturn, 1) := by decide +kernel
theorem d_Y_clear_0 : decode prog_1_method_4_code 0 = .ok (.aload_n 0, 1) := by decide +kernel
theorem d_Y_clear_1 : decode prog_1_method_4_code 1 = .ok (.getfield 12, 3) := by decide +kernel
theorem d_Y_clear_4 : decode prog_1_method_4_code 4 = .ok (.getfield 89, 3) := by decide +kernel
theorem d_Y_clear_7 : decode prog_1_method_4_code 7 = .ok (.istore_n 1, 1) := by decide +kernel
theorem d_Y_clear_8 : decode prog_1_method_4_code 8 = .ok (.aload_n 0, 1) := by decide +kernel
theorem d_Y_clear_9 : decode prog_1_method_4_code 9 = .ok (.getfield 12, 3) := by decide +kernel
theorem d_Y_clear_12 : decode prog_1_method_4_code 12 = .ok (.iconst 0, 1) := by decide +kernel
theorem d_Y_clear_13 : decode prog_1_method_4_code 13 = .ok (.putfield 89, 3) := by decide +kernel
theorem d_Y_clear_16 : decode prog_1_method_4_code 16 = .ok (.iload_n 1, 1) := by decide +kernel
theorem d_Y_clear_17 : decode prog_1_method_4_code 17 = .ok (.ireturn, 1) := by decide +kernel
theorem d_Y_spawn_0 : decode prog_1_method_5_code 0 = .ok (.iload_n 1, 1) := by decide +kernel
theorem d_Y_spawn_1 : decode prog_1_method_5_code 1 = .ok (.ifCond .lt 11, 3) := by decide +kernel
theorem d_Y_spawn_4 : decode prog_1_method_5_code 4 = .ok (.iload_n 1, 1) := by decide +kernel
theorem d_Y_spawn_5 : decode prog_1_method_5_code 5 = .ok (.aload_n 0, 1) := by decide +kernel
theorem d_Y_spawn_6 : decode prog_1_method_5_code 6 = .ok (.getfield 20, 3) := by decide +kernel
theorem d_Y_spawn_9 : decode prog_1_method_5_code 9 = .ok (.if_icmp .lt 5, 3) := by decide +kernel
theorem d_Y_spawn_12 : decode prog_1_method_5_code 12 = .ok (.iconst (-1), 1) := by decide +kernel
theorem d_Y_spawn_13 : decode prog_1_method_5_code 13 = .ok (.ireturn, 1) := by decide +kernel
theorem d_Y_spawn_14 : decode prog_1_method_5_code 14 = .ok (.aload_n 0, 1) := by decide +kernel
theorem d_Y_spawn_15 : decode prog_1_method_5_code 15 = .ok (.getfield 30, 3) := by decide +kernel
theorem d_Y_spawn_18 : decode prog_1_method_5_code 18 = .ok (.bipush 12, 2) := by decide +kernel
theorem d_Y_spawn_20 : decode prog_1_method_5_code 20 = .ok (.if_icmp .lt 6, 3) := by decide +kernel
theorem d_Y_spawn_23 : decode prog_1_method_5_code 23 = .ok (.bipush (-2), 2) := by decide +kernel
theorem d_Y_spawn_25 : decode prog_1_method_5_code 25 = .ok (.ireturn, 1) := by decide +kernel
theorem d_Y_spawn_26 : decode prog_1_method_5_code 26 = .ok (.aload_n 0, 1) := by decide +kernel
theorem d_Y_spawn_27 : decode prog_1_method_5_code 27 = .ok (.iload_n 1, 1) := by decide +kernel
theorem d_Y_spawn_28 : decode prog_1_method_5_code 28 = .ok (.invokevirtual 99, 3) := by decide +kernel
theorem d_Y_spawn_31 : decode prog_1_method_5_code 31 = .ok (.istore_n 2, 1) := by decide +kernel
theorem d_Y_spawn_32 : decode prog_1_method_5_code 32 = .ok (.aload_n 0, 1) := by decide +kernel
theorem d_Y_spawn_33 : decode prog_1_method_5_code 33 = .ok (.invokevirtual 103, 3) := by decide +kernel
theorem d_Y_spawn_36 : decode prog_1_method_5_code 36 = .ok (.iload_n 2, 1) := by decide +kernel
theorem d_Y_spawn_37 : decode prog_1_method_5_code 37 = .ok (.ireturn, 1) := by decide +kernel
theorem d_Y_turn_0 : decode prog_1_method_6_code 0 = .ok (.iload_n 1, 1) := by decide +kernel
theorem d_Y_turn_1 : decode prog_1_method_6_code 1 = .ok (.ifCond .lt 8, 3) := by decide +kernel
theorem d_Y_turn_4 : decode prog_1_method_6_code 4 = .ok (.iload_n 1, 1) := by decide +kernel
theorem d_Y_turn_5 : decode prog_1_method_6_code 5 = .ok (.iconst 3, 1) := by decide +kernel
theorem d_Y_turn_6 : decode prog_1_method_6_code 6 = .ok (.if_icmp .lt 7, 3) := by decide +kernel
theorem d_Y_turn_9 : decode prog_1_method_6_code 9 = .ok (.iconst (-1), 1) := by decide +kernel
theorem d_Y_turn_10 : decode prog_1_method_6_code 10 = .ok (.goto 13, 3) := by decide +kernel
theorem d_Y_turn_13 : decode prog_1_method_6_code 13 = .ok (.aload_n 0, 1) := by decide +kernel
theorem d_Y_turn_14 : decode prog_1_method_6_code 14 = .ok (.aload_n 0, 1) := by decide +kernel
theorem d_Y_turn_15 : decode prog_1_method_6_code 15 = .ok (.getfield 38, 3) := by decide +kernel
theorem d_Y_turn_18 : decode prog_1_method_6_code 18 = .ok (.iload_n 1, 1) := by decide +kernel
theorem d_Y_turn_19 : decode prog_1_method_6_code 19 = .ok (.aaload, 1) := by decide +kernel
theorem d_Y_turn_20 : decode prog_1_method_6_code 20 = .ok (.invokevirtual 106, 3) := by decide +kernel
theorem d_Y_turn_23 : decode prog_1_method_6_code 23 = .ok (.ireturn, 1) := by decide +kernel
theorem d_Y_run_0 : decode prog_1_method_7_code 0 = .ok (.iload_n 1, 1) := by decide +kernel
theorem d_Y_run_1 : decode prog_1_method_7_code 1 = .ok (.iconst 1, 1) := by decide +kernel
theorem d_Y_run_2 : decode prog_1_method_7_code 2 = .ok (.if_icmp .lt 9, 3) := by decide +kernel
theorem d_Y_run_5 : decode prog_1_method_7_code 5 = .ok (.iload_n 1, 1) := by decide +kernel
theorem d_Y_run_6 : decode prog_1_method_7_code 6 = .ok (.bipush 30, 2) := by decide +kernel
theorem d_Y_run_8 : decode prog_1_method_7_code 8 = .ok (.if_icmp .le 5, 3) := by decide +kernel
theorem d_Y_run_11 : decode prog_1_method_7_code 11 = .ok (.iconst (-1), 1) := by decide +kernel
theorem d_Y_run_12 : decode prog_1_method_7_code 12 = .ok (.ireturn, 1) := by decide +kernel
theorem d_Y_run_13 : decode prog_1_method_7_code 13 = .ok (.iconst 0, 1) := by decide +kernel
theorem d_Y_run_14 : decode prog_1_method_7_code 14 = .ok (.istore_n 2, 1) := by decide +kernel
theorem d_Y_run_15 : decode prog_1_method_7_code 15 = .ok (.iconst 0, 1) := by decide +kernel
theorem d_Y_run_16 : decode prog_1_method_7_code 16 = .ok (.istore_n 3, 1) := by decide +kernel
theorem d_Y_run_17 : decode prog_1_method_7_code 17 = .ok (.iload_n 3, 1) := by decide +kernel
theorem d_Y_run_18 : decode prog_1_method_7_code 18 = .ok (.iload_n 1, 1) := by decide +kernel
theorem d_Y_run_19 : decode prog_1_method_7_code 19 = .ok (.if_icmp .ge 42, 3) := by decide +kernel
theorem d_Y_run_22 : decode prog_1_method_7_code 22 = .ok (.aload_n 0, 1) := by decide +kernel
theorem d_Y_run_23 : decode prog_1_method_7_code 23 = .ok (.aload_n 0, 1) := by decide +kernel
theorem d_Y_run_24 : decode prog_1_method_7_code 24 = .ok (.getfield 38, 3) := by decide +kernel
theorem d_Y_run_27 : decode prog_1_method_7_code 27 = .ok (.aload_n 0, 1) := by decide +kernel
theorem d_Y_run_28 : decode prog_1_method_7_code 28 = .ok (.getfield 75, 3) := by decide +kernel
theorem d_Y_run_31 : decode prog_1_method_7_code 31 = .ok (.aaload, 1) := by decide +kernel
theorem d_Y_run_32 : decode prog_1_method_7_code 32 = .ok (.invokevirtual 106, 3) := by decide +kernel
theorem d_Y_run_35 : decode prog_1_method_7_code 35 = .ok (.bipush (-2), 2) := by decide +kernel
theorem d_Y_run_37 : decode prog_1_method_7_code 37 = .ok (.if_icmp .eq 6, 3) := by decide +kernel
theorem d_Y_run_40 : decode prog_1_method_7_code 40 = .ok (.iinc 2 1, 3) := by decide +kernel
theorem d_Y_run_43 : decode prog_1_method_7_code 43 = .ok (.aload_n 0, 1) := by decide +kernel
theorem d_Y_run_44 : decode prog_1_method_7_code 44 = .ok (.aload_n 0, 1) := by decide +kernel
theorem d_Y_run_45 : decode prog_1_method_7_code 45 = .ok (.getfield 75, 3) := by decide +kernel
theorem d_Y_run_48 : decode prog_1_method_7_code 48 = .ok (.iconst 1, 1) := by decide +kernel
theorem d_Y_run_49 : decode prog_1_method_7_code 49 = .ok (.iadd, 1) := by decide +kernel
theorem d_Y_run_50 : decode prog_1_method_7_code 50 = .ok (.iconst 3, 1) := by decide +kernel
theorem d_Y_run_51 : decode prog_1_method_7_code 51 = .ok (.irem, 1) := by decide +kernel
theorem d_Y_run_52 : decode prog_1_method_7_code 52 = .ok (.putfield 75, 3) := by decide +kernel
theorem d_Y_run_55 : decode prog_1_method_7_code 55 = .ok (.iinc 3 1, 3) := by decide +kernel
theorem d_Y_run_58 : decode prog_1_method_7_code 58 = .ok (.goto (-41), 3) := by decide +kernel
theorem d_Y_run_61 : decode prog_1_method_7_code 61 = .ok (.iload_n 2, 1) := by decide +kernel
theorem d_Y_run_62 : decode prog_1_method_7_code 62 = .ok (.ireturn, 1) := by decide +kernel
theorem d_Y_tick_0 : decode prog_1_method_8_code 0 = .ok (.iload_n 1, 1) := by decide +kernel
theorem d_Y_tick_1 : decode prog_1_method_8_code 1 = .ok (.iconst 1, 1) := by decide +kernel
theorem d_Y_tick_2 : decode prog_1_method_8_code 2 = .ok (.if_icmp .lt 9, 3) := by decide +kernel
theorem d_Y_tick_5 : decode prog_1_method_8_code 5 = .ok (.iload_n 1, 1) := by decide +kernel
theorem d_Y_tick_6 : decode prog_1_method_8_code 6 = .ok (.bipush 20, 2) := by decide +kernel
theorem d_Y_tick_8 : decode prog_1_method_8_code 8 = .ok (.if_icmp .le 5, 3) := by decide +kernel
theorem d_Y_tick_11 : decode prog_1_method_8_code 11 = .ok (.iconst (-1), 1) := by decide +kernel
theorem d_Y_tick_12 : decode prog_1_method_8_code 12 = .ok (.ireturn, 1) := by decide +kernel
theorem d_Y_tick_13 : decode prog_1_method_8_code 13 = .ok (.iconst 0, 1) := by decide +kernel
theorem d_Y_tick_14 : decode prog_1_method_8_code 14 = .ok (.istore_n 2, 1) := by decide +kernel
theorem d_Y_tick_15 : decode prog_1_method_8_code 15 = .ok (.iload_n 2, 1) := by decide +kernel
theorem d_Y_tick_16 : decode prog_1_method_8_code 16 = .ok (.iload_n 1, 1) := by decide +kernel
theorem d_Y_tick_17 : decode prog_1_method_8_code 17 = .ok (.if_icmp .ge 23, 3) := by decide +kernel
theorem d_Y_tick_20 : decode prog_1_method_8_code 20 = .ok (.aload_n 0, 1) := by decide +kernel
theorem d_Y_tick_21 : decode prog_1_method_8_code 21 = .ok (.dup, 1) := by decide +kernel
theorem d_Y_tick_22 : decode prog_1_method_8_code 22 = .ok (.getfield 66, 3) := by decide +kernel
theorem d_Y_tick_25 : decode prog_1_method_8_code 25 = .ok (.iconst 1, 1) := by decide +kernel
theorem d_Y_tick_26 : decode prog_1_method_8_code 26 = .ok (.iadd, 1) := by decide +kernel
theorem d_Y_tick_27 : decode prog_1_method_8_code 27 = .ok (.putfield 66, 3) := by decide +kernel
theorem d_Y_tick_30 : decode prog_1_method_8_code 30 = .ok (.aload_n 0, 1) := by decide +kernel
theorem d_Y_tick_31 : decode prog_1_method_8_code 31 = .ok (.invokevirtual 110, 3) := by decide +kernel
theorem d_Y_tick_34 : decode prog_1_method_8_code 34 = .ok (.iinc 2 1, 3) := by decide +kernel
theorem d_Y_tick_37 : decode prog_1_method_8_code 37 = .ok (.goto (-22), 3) := by decide +kernel
theorem d_Y_tick_40 : decode prog_1_method_8_code 40 = .ok (.aload_n 0, 1) := by decide +kernel
theorem d_Y_tick_41 : decode prog_1_method_8_code 41 = .ok (.invokevirtual 103, 3) := by decide +kernel
theorem d_Y_tick_44 : decode prog_1_method_8_code 44 = .ok (.aload_n 0, 1) := by decide +kernel
theorem d_Y_tick_45 : decode prog_1_method_8_code 45 = .ok (.getfield 66, 3) := by decide +kernel
theorem d_Y_tick_48 : decode prog_1_method_8_code 48 = .ok (.ireturn, 1) := by decide +kernel
theorem d_Y_abort_0 : decode prog_1_method_9_code 0 = .ok (.aload_n 0, 1) := by decide +kernel
theorem d_Y_abort_1 : decode prog_1_method_9_code 1 = .ok (.iload_n 1, 1) := by decide +kernel
theorem d_Y_abort_2 : decode prog_1_method_9_code 2 = .ok (.invokevirtual 113, 3) := by decide +kernel
theorem d_Y_abort_5 : decode prog_1_method_9_code 5 = .ok (.astore_n 2, 1) := by decide +kernel
theorem d_Y_abort_6 : decode prog_1_method_9_code 6 = .ok (.aload_n 2, 1) := by decide +kernel
theorem d_Y_abort_7 : decode prog_1_method_9_code 7 = .ok (.ifnull 10, 3) := by decide +kernel
theorem d_Y_abort_10 : decode prog_1_method_9_code 10 = .ok (.aload_n 2, 1) := by decide +kernel
theorem d_Y_abort_11 : decode prog_1_method_9_code 11 = .ok (.invokevirtual 117, 3) := by decide +kernel
theorem d_Y_abort_14 : decode prog_1_method_9_code 14 = .ok (.ifCond .eq 5, 3) := by decide +kernel
theorem d_Y_abort_17 : decode prog_1_method_9_code 17 = .ok (.iconst 0, 1) := by decide +kernel
theorem d_Y_abort_18 : decode prog_1_method_9_code 18 = .ok (.ireturn, 1) := by decide +kernel
theorem d_Y_abort_19 : decode prog_1_method_9_code 19 = .ok (.aload_n 0, 1) := by decide +kernel
theorem d_Y_abort_20 : decode prog_1_method_9_code 20 = .ok (.iload_n 1, 1) := by decide +kernel
theorem d_Y_abort_21 : decode prog_1_method_9_code 21 = .ok (.invokevirtual 120, 3) := by decide +kernel
theorem d_Y_abort_24 : decode prog_1_method_9_code 24 = .ok (.aload_n 2, 1) := by decide +kernel
theorem d_Y_abort_25 : decode prog_1_method_9_code 25 = .ok (.iconst 4, 1) := by decide +kernel
theorem d_Y_abort_26 : decode prog_1_method_9_code 26 = .ok (.putfield 123, 3) := by decide +kernel
theorem d_Y_abort_29 : decode prog_1_method_9_code 29 = .ok (.aload_n 0, 1) := by decide +kernel
theorem d_Y_abort_30 : decode prog_1_method_9_code 30 = .ok (.aload_n 2, 1) := by decide +kernel
theorem d_Y_abort_31 : decode prog_1_method_9_code 31 = .ok (.iconst 0, 1) := by decide +kernel
theorem d_Y_abort_32 : decode prog_1_method_9_code 32 = .ok (.invokevirtual 126, 3) := by decide +kernel
theorem d_Y_abort_35 : decode prog_1_method_9_code 35 = .ok (.aload_n 0, 1) := by decide +kernel
theorem d_Y_abort_36 : decode prog_1_method_9_code 36 = .ok (.iload_n 1, 1) := by decide +kernel
theorem d_Y_abort_37 : decode prog_1_method_9_code 37 = .ok (.invokevirtual 130, 3) := by decide +kernel
theorem d_Y_abort_40 : decode prog_1_method_9_code 40 = .ok (.aload_n 0, 1) := by decide +kernel
theorem d_Y_abort_41 : decode prog_1_method_9_code 41 = .ok (.invokevirtual 103, 3) := by decide +kernel
theorem d_Y_abort_44 : decode prog_1_method_9_code 44 = .ok (.iconst 1, 1) := by decide +kernel
theorem d_Y_abort_45 : decode prog_1_method_9_code 45 = .ok (.ireturn, 1) := by decide +kernel
theorem d_Y_put_0 : decode prog_1_method_10_code 0 = .ok (.iload_n 1, 1) := by decide +kernel
theorem d_Y_put_1 : decode prog_1_method_10_code 1 = .ok (.ifCond .lt 19, 3) := by decide +kernel
theorem d_Y_put_4 : decode prog_1_method_10_code 4 = .ok (.iload_n 1, 1) := by decide +kernel
theorem d_Y_put_5 : decode prog_1_method_10_code 5 = .ok (.iconst 1, 1) := by decide +kernel
theorem d_Y_put_6 : decode prog_1_method_10_code 6 = .ok (.if_icmp .gt 14, 3) := by decide +kernel
theorem d_Y_put_9 : decode prog_1_method_10_code 9 = .ok (.iload_n 2, 1) := by decide +kernel
theorem d_Y_put_10 : decode prog_1_method_10_code 10 = .ok (.iconst 1, 1) := by decide +kernel
theorem d_Y_put_11 : decode prog_1_method_10_code 11 = .ok (.if_icmp .lt 9, 3) := by decide +kernel
theorem d_Y_put_14 : decode prog_1_method_10_code 14 = .ok (.iload_n 2, 1) := by decide +kernel
theorem d_Y_put_15 : decode prog_1_method_10_code 15 = .ok (.bipush 9, 2) := by decide +kernel
theorem d_Y_put_17 : decode prog_1_method_10_code 17 = .ok (.if_icmp .le 5, 3) := by decide +kernel
theorem d_Y_put_20 : decode prog_1_method_10_code 20 = .ok (.iconst (-1), 1) := by decide +kernel
theorem d_Y_put_21 : decode prog_1_method_10_code 21 = .ok (.ireturn, 1) := by decide +kernel
theorem d_Y_put_22 : decode prog_1_method_10_code 22 = .ok (.aload_n 0, 1) := by decide +kernel
theorem d_Y_put_23 : decode prog_1_method_10_code 23 = .ok (.aload_n 0, 1) := by decide +kernel
theorem d_Y_put_24 : decode prog_1_method_10_code 24 = .ok (.getfield 55, 3) := by decide +kernel
theorem d_Y_put_27 : decode prog_1_method_10_code 27 = .ok (.iload_n 1, 1) := by decide +kernel
theorem d_Y_put_28 : decode prog_1_method_10_code 28 = .ok (.aaload, 1) := by decide +kernel
theorem d_Y_put_29 : decode prog_1_method_10_code 29 = .ok (.iload_n 2, 1) := by decide +kernel
theorem d_Y_put_30 : decode prog_1_method_10_code 30 = .ok (.invokevirtual 133, 3) := by decide +kernel
theorem d_Y_put_33 : decode prog_1_method_10_code 33 = .ok (.aload_n 0, 1) := by decide +kernel
theorem d_Y_put_34 : decode prog_1_method_10_code 34 = .ok (.invokevirtual 103, 3) := by decide +kernel
theorem d_Y_put_37 : decode prog_1_method_10_code 37 = .ok (.aload_n 0, 1) := by decide +kernel
theorem d_Y_put_38 : decode prog_1_method_10_code 38 = .ok (.getfield 55, 3) := by decide +kernel
theorem d_Y_put_41 : decode prog_1_method_10_code 41 = .ok (.iload_n 1, 1) := by decide +kernel
theorem d_Y_put_42 : decode prog_1_method_10_code 42 = .ok (.aaload, 1) := by decide +kernel
theorem d_Y_put_43 : decode prog_1_method_10_code 43 = .ok (.getfield 137, 3) := by decide +kernel
theorem d_Y_put_46 : decode prog_1_method_10_code 46 = .ok (.ireturn, 1) := by decide +kernel
theorem d_Y_wake_0 : decode prog_1_method_11_code 0 = .ok (.iload_n 1, 1) := by decide +kernel
theorem d_Y_wake_1 : decode prog_1_method_11_code 1 = .ok (.ifCond .lt 8, 3) := by decide +kernel
theorem d_Y_wake_4 : decode prog_1_method_11_code 4 = .ok (.iload_n 1, 1) := by decide +kernel
theorem d_Y_wake_5 : decode prog_1_method_11_code 5 = .ok (.iconst 1, 1) := by decide +kernel
theorem d_Y_wake_6 : decode prog_1_method_11_code 6 = .ok (.if_icmp .le 5, 3) := by decide +kernel
theorem d_Y_wake_9 : decode prog_1_method_11_code 9 = .ok (.iconst (-1), 1) := by decide +kernel
theorem d_Y_wake_10 : decode prog_1_method_11_code 10 = .ok (.ireturn, 1) := by decide +kernel
theorem d_Y_wake_11 : decode prog_1_method_11_code 11 = .ok (.aload_n 0, 1) := by decide +kernel
theorem d_Y_wake_12 : decode prog_1_method_11_code 12 = .ok (.aload_n 0, 1) := by decide +kernel
theorem d_Y_wake_13 : decode prog_1_method_11_code 13 = .ok (.getfield 62, 3) := by decide +kernel
theorem d_Y_wake_16 : decode prog_1_method_11_code 16 = .ok (.iload_n 1, 1) := by decide +kernel
theorem d_Y_wake_17 : decode prog_1_method_11_code 17 = .ok (.aaload, 1) := by decide +kernel
theorem d_Y_wake_18 : decode prog_1_method_11_code 18 = .ok (.invokevirtual 140, 3) := by decide +kernel
theorem d_Y_wake_21 : decode prog_1_method_11_code 21 = .ok (.istore_n 2, 1) := by decide +kernel
theorem d_Y_wake_22 : decode prog_1_method_11_code 22 = .ok (.aload_n 0, 1) := by decide +kernel
theorem d_Y_wake_23 : decode prog_1_method_11_code 23 = .ok (.invokevirtual 103, 3) := by decide +kernel
theorem d_Y_wake_26 : decode prog_1_method_11_code 26 = .ok (.iload_n 2, 1) := by decide +kernel
theorem d_Y_wake_27 : decode prog_1_method_11_code 27 = .ok (.ifCond .eq 7, 3) := by decide +kernel
theorem d_Y_wake_30 : decode prog_1_method_11_code 30 = .ok (.iconst 1, 1) := by decide +kernel
theorem d_Y_wake_31 : decode prog_1_method_11_code 31 = .ok (.goto 4, 3) := by decide +kernel
theorem d_Y_wake_34 : decode prog_1_method_11_code 34 = .ok (.iconst 0, 1) := by decide +kernel
theorem d_Y_wake_35 : decode prog_1_method_11_code 35 = .ok (.ireturn, 1) := by decide +kernel
theorem d_Y_task_0 : decode prog_1_method_12_code 0 = .ok (.aload_n 0, 1) := by decide +kernel
theorem d_Y_task_1 : decode prog_1_method_12_code 1 = .ok (.iload_n 1, 1) := by decide +kernel
theorem d_Y_task_2 : decode prog_1_method_12_code 2 = .ok (.invokevirtual 113, 3) := by decide +kernel
theorem d_Y_task_5 : decode prog_1_method_12_code 5 = .ok (.astore_n 3, 1) := by decide +kernel
theorem d_Y_task_6 : decode prog_1_method_12_code 6 = .ok (.aload_n 3, 1) := by decide +kernel
theorem d_Y_task_7 : decode prog_1_method_12_code 7 = .ok (.ifnonnull 5, 3) := by decide +kernel
theorem d_Y_task_10 : decode prog_1_method_12_code 10 = .ok (.iconst (-1), 1) := by decide +kernel
theorem d_Y_task_11 : decode prog_1_method_12_code 11 = .ok (.ireturn, 1) := by decide +kernel
theorem d_Y_task_12 : decode prog_1_method_12_code 12 = .ok (.iload_n 2, 1) := by decide +kernel
theorem d_Y_task_13 : decode prog_1_method_12_code 13 = .ok (.tableswitch 70 0 5 #[39, 44, 49, 54, 59, 64], 39) := by decide +kernel
theorem d_Y_task_52 : decode prog_1_method_12_code 52 = .ok (.aload_n 3, 1) := by decide +kernel
theorem d_Y_task_53 : decode prog_1_method_12_code 53 = .ok (.getfield 123, 3) := by decide +kernel
theorem d_Y_task_56 : decode prog_1_method_12_code 56 = .ok (.ireturn, 1) := by decide +kernel
theorem d_Y_task_57 : decode prog_1_method_12_code 57 = .ok (.aload_n 3, 1) := by decide +kernel
theorem d_Y_task_58 : decode prog_1_method_12_code 58 = .ok (.getfield 144, 3) := by decide +kernel
theorem d_Y_task_61 : decode prog_1_method_12_code 61 = .ok (.ireturn, 1) := by decide +kernel
theorem d_Y_task_62 : decode prog_1_method_12_code 62 = .ok (.aload_n 3, 1) := by decide +kernel
theorem d_Y_task_63 : decode prog_1_method_12_code 63 = .ok (.getfield 147, 3) := by decide +kernel
theorem d_Y_task_66 : decode prog_1_method_12_code 66 = .ok (.ireturn, 1) := by decide +kernel
theorem d_Y_task_67 : decode prog_1_method_12_code 67 = .ok (.aload_n 3, 1) := by decide +kernel
theorem d_Y_task_68 : decode prog_1_method_12_code 68 = .ok (.getfield 150, 3) := by decide +kernel
theorem d_Y_task_71 : decode prog_1_method_12_code 71 = .ok (.ireturn, 1) := by decide +kernel
theorem d_Y_task_72 : decode prog_1_method_12_code 72 = .ok (.aload_n 3, 1) := by decide +kernel
theorem d_Y_task_73 : decode prog_1_method_12_code 73 = .ok (.getfield 153, 3) := by decide +kernel
theorem d_Y_task_76 : decode prog_1_method_12_code 76 = .ok (.ireturn, 1) := by decide +kernel
theorem d_Y_task_77 : decode prog_1_method_12_code 77 = .ok (.aload_n 0, 1) := by decide +kernel
theorem d_Y_task_78 : decode prog_1_method_12_code 78 = .ok (.iload_n 1, 1) := by decide +kernel
theorem d_Y_task_79 : decode prog_1_method_12_code 79 = .ok (.invokevirtual 156, 3) := by decide +kernel
theorem d_Y_task_82 : decode prog_1_method_12_code 82 = .ok (.ireturn, 1) := by decide +kernel
theorem d_Y_task_83 : decode prog_1_method_12_code 83 = .ok (.iconst (-1), 1) := by decide +kernel
theorem d_Y_task_84 : decode prog_1_method_12_code 84 = .ok (.ireturn, 1) := by decide +kernel
theorem d_Y_worker_0 : decode prog_1_method_13_code 0 = .ok (.iload_n 1, 1) := by decide +kernel
theorem d_Y_worker_1 : decode prog_1_method_13_code 1 = .ok (.ifCond .lt 8, 3) := by decide +kernel
theorem d_Y_worker_4 : decode prog_1_method_13_code 4 = .ok (.iload_n 1, 1) := by decide +kernel
theorem d_Y_worker_5 : decode prog_1_method_13_code 5 = .ok (.iconst 3, 1) := by decide +kernel
theorem d_Y_worker_6 : decode prog_1_method_13_code 6 = .ok (.if_icmp .lt 5, 3) := by decide +kernel
theorem d_Y_worker_9 : decode prog_1_method_13_code 9 = .ok (.iconst (-1), 1) := by decide +kernel
theorem d_Y_worker_10 : decode prog_1_method_13_code 10 = .ok (.ireturn, 1) := by decide +kernel
theorem d_Y_worker_11 : decode prog_1_method_13_code 11 = .ok (.aload_n 0, 1) := by decide +kernel
theorem d_Y_worker_12 : decode prog_1_method_13_code 12 = .ok (.getfield 38, 3) := by decide +kernel
theorem d_Y_worker_15 : decode prog_1_method_13_code 15 = .ok (.iload_n 1, 1) := by decide +kernel
theorem d_Y_worker_16 : decode prog_1_method_13_code 16 = .ok (.aaload, 1) := by decide +kernel
theorem d_Y_worker_17 : decode prog_1_method_13_code 17 = .ok (.astore_n 3, 1) := by decide +kernel
theorem d_Y_worker_18 : decode prog_1_method_13_code 18 = .ok (.iload_n 2, 1) := by decide +kernel
theorem d_Y_worker_19 : decode prog_1_method_13_code 19 = .ok (.tableswitch 79 0 7 #[45, 50, 55, 63, 63, 63, 63, 74], 45) := by decide +kernel
theorem d_Y_worker_64 : decode prog_1_method_13_code 64 = .ok (.aload_n 3, 1) := by decide +kernel
theorem d_Y_worker_65 : decode prog_1_method_13_code 65 = .ok (.getfield 159, 3) := by decide +kernel
theorem d_Y_worker_68 : decode prog_1_method_13_code 68 = .ok (.ireturn, 1) := by decide +kernel
theorem d_Y_worker_69 : decode prog_1_method_13_code 69 = .ok (.aload_n 3, 1) := by decide +kernel
theorem d_Y_worker_70 : decode prog_1_method_13_code 70 = .ok (.getfield 162, 3) := by decide +kernel
theorem d_Y_worker_73 : decode prog_1_method_13_code 73 = .ok (.ireturn, 1) := by decide +kernel
theorem d_Y_worker_74 : decode prog_1_method_13_code 74 = .ok (.aload_n 3, 1) := by decide +kernel
theorem d_Y_worker_75 : decode prog_1_method_13_code 75 = .ok (.getfield 165, 3) := by decide +kernel
theorem d_Y_worker_78 : decode prog_1_method_13_code 78 = .ok (.getfield 168, 3) := by decide +kernel
theorem d_Y_worker_81 : decode prog_1_method_13_code 81 = .ok (.ireturn, 1) := by decide +kernel
theorem d_Y_worker_82 : decode prog_1_method_13_code 82 = .ok (.aload_n 3, 1) := by decide +kernel
theorem d_Y_worker_83 : decode prog_1_method_13_code 83 = .ok (.getfield 165, 3) := by decide +kernel
theorem d_Y_worker_86 : decode prog_1_method_13_code 86 = .ok (.iload_n 2, 1) := by decide +kernel
theorem d_Y_worker_87 : decode prog_1_method_13_code 87 = .ok (.iconst 3, 1) := by decide +kernel
theorem d_Y_worker_88 : decode prog_1_method_13_code 88 = .ok (.isub, 1) := by decide +kernel
theorem d_Y_worker_89 : decode prog_1_method_13_code 89 = .ok (.invokevirtual 169, 3) := by decide +kernel
theorem d_Y_worker_92 : decode prog_1_method_13_code 92 = .ok (.ireturn, 1) := by decide +kernel
theorem d_Y_worker_93 : decode prog_1_method_13_code 93 = .ok (.aload_n 3, 1) := by decide +kernel
theorem d_Y_worker_94 : decode prog_1_method_13_code 94 = .ok (.getfield 172, 3) := by decide +kernel
theorem d_Y_worker_97 : decode prog_1_method_13_code 97 = .ok (.ireturn, 1) := by decide +kernel
theorem d_Y_worker_98 : decode prog_1_method_13_code 98 = .ok (.iconst (-1), 1) := by decide +kernel
theorem d_Y_worker_99 : decode prog_1_method_13_code 99 = .ok (.ireturn, 1) := by decide +kernel
theorem d_Y_injected_0 : decode prog_1_method_14_code 0 = .ok (.iload_n 1, 1) := by decide +kernel
theorem d_Y_injected_1 : decode prog_1_method_14_code 1 = .ok (.ifCond .lt 14, 3) := by decide +kernel
theorem d_Y_injected_4 : decode prog_1_method_14_code 4 = .ok (.iload_n 1, 1) := by decide +kernel
theorem d_Y_injected_5 : decode prog_1_method_14_code 5 = .ok (.aload_n 0, 1) := by decide +kernel
theorem d_Y_injected_6 : decode prog_1_method_14_code 6 = .ok (.getfield 45, 3) := by decide +kernel
theorem d_Y_injected_9 : decode prog_1_method_14_code 9 = .ok (.getfield 168, 3) := by decide +kernel
theorem d_Y_injected_12 : decode prog_1_method_14_code 12 = .ok (.if_icmp .lt 7, 3) := by decide +kernel
theorem d_Y_injected_15 : decode prog_1_method_14_code 15 = .ok (.iconst (-1), 1) := by decide +kernel
theorem d_Y_injected_16 : decode prog_1_method_14_code 16 = .ok (.goto 11, 3) := by decide +kernel
theorem d_Y_injected_19 : decode prog_1_method_14_code 19 = .ok (.aload_n 0, 1) := by decide +kernel
theorem d_Y_injected_20 : decode prog_1_method_14_code 20 = .ok (.getfield 45, 3) := by decide +kernel
theorem d_Y_injected_23 : decode prog_1_method_14_code 23 = .ok (.iload_n 1, 1) := by decide +kernel
theorem d_Y_injected_24 : decode prog_1_method_14_code 24 = .ok (.invokevirtual 169, 3) := by decide +kernel
theorem d_Y_injected_27 : decode prog_1_method_14_code 27 = .ok (.ireturn, 1) := by decide +kernel
theorem d_Y_gate_0 : decode prog_1_method_15_code 0 = .ok (.iload_n 1, 1) := by decide +kernel
theorem d_Y_gate_1 : decode prog_1_method_15_code 1 = .ok (.ifCond .lt 8, 3) := by decide +kernel
theorem d_Y_gate_4 : decode prog_1_method_15_code 4 = .ok (.iload_n 1, 1) := by decide +kernel
theorem d_Y_gate_5 : decode prog_1_method_15_code 5 = .ok (.iconst 1, 1) := by decide +kernel
theorem d_Y_gate_6 : decode prog_1_method_15_code 6 = .ok (.if_icmp .le 5, 3) := by decide +kernel
theorem d_Y_gate_9 : decode prog_1_method_15_code 9 = .ok (.iconst (-1), 1) := by decide +kernel
theorem d_Y_gate_10 : decode prog_1_method_15_code 10 = .ok (.ireturn, 1) := by decide +kernel
theorem d_Y_gate_11 : decode prog_1_method_15_code 11 = .ok (.iload_n 2, 1) := by decide +kernel
theorem d_Y_gate_12 : decode prog_1_method_15_code 12 = .ok (.tableswitch 101 0 4 #[36, 46, 59, 70, 88], 36) := by decide +kernel
theorem d_Y_gate_48 : decode prog_1_method_15_code 48 = .ok (.aload_n 0, 1) := by decide +kernel
theorem d_Y_gate_49 : decode prog_1_method_15_code 49 = .ok (.getfield 55, 3) := by decide +kernel
theorem d_Y_gate_52 : decode prog_1_method_15_code 52 = .ok (.iload_n 1, 1) := by decide +kernel
theorem d_Y_gate_53 : decode prog_1_method_15_code 53 = .ok (.aaload, 1) := by decide +kernel
theorem d_Y_gate_54 : decode prog_1_method_15_code 54 = .ok (.getfield 137, 3) := by decide +kernel
theorem d_Y_gate_57 : decode prog_1_method_15_code 57 = .ok (.ireturn, 1) := by decide +kernel
theorem d_Y_gate_58 : decode prog_1_method_15_code 58 = .ok (.aload_n 0, 1) := by decide +kernel
theorem d_Y_gate_59 : decode prog_1_method_15_code 59 = .ok (.getfield 55, 3) := by decide +kernel
theorem d_Y_gate_62 : decode prog_1_method_15_code 62 = .ok (.iload_n 1, 1) := by decide +kernel
theorem d_Y_gate_63 : decode prog_1_method_15_code 63 = .ok (.aaload, 1) := by decide +kernel
theorem d_Y_gate_64 : decode prog_1_method_15_code 64 = .ok (.getfield 175, 3) := by decide +kernel
theorem d_Y_gate_67 : decode prog_1_method_15_code 67 = .ok (.getfield 168, 3) := by decide +kernel
theorem d_Y_gate_70 : decode prog_1_method_15_code 70 = .ok (.ireturn, 1) := by decide +kernel
theorem d_Y_gate_71 : decode prog_1_method_15_code 71 = .ok (.aload_n 0, 1) := by decide +kernel
theorem d_Y_gate_72 : decode prog_1_method_15_code 72 = .ok (.aload_n 0, 1) := by decide +kernel
theorem d_Y_gate_73 : decode prog_1_method_15_code 73 = .ok (.getfield 55, 3) := by decide +kernel
theorem d_Y_gate_76 : decode prog_1_method_15_code 76 = .ok (.iload_n 1, 1) := by decide +kernel
theorem d_Y_gate_77 : decode prog_1_method_15_code 77 = .ok (.aaload, 1) := by decide +kernel
theorem d_Y_gate_78 : decode prog_1_method_15_code 78 = .ok (.invokevirtual 178, 3) := by decide +kernel
theorem d_Y_gate_81 : decode prog_1_method_15_code 81 = .ok (.ireturn, 1) := by decide +kernel
theorem d_Y_gate_82 : decode prog_1_method_15_code 82 = .ok (.aload_n 0, 1) := by decide +kernel
theorem d_Y_gate_83 : decode prog_1_method_15_code 83 = .ok (.getfield 62, 3) := by decide +kernel
theorem d_Y_gate_86 : decode prog_1_method_15_code 86 = .ok (.iload_n 1, 1) := by decide +kernel
theorem d_Y_gate_87 : decode prog_1_method_15_code 87 = .ok (.aaload, 1) := by decide +kernel
theorem d_Y_gate_88 : decode prog_1_method_15_code 88 = .ok (.getfield 182, 3) := by decide +kernel
theorem d_Y_gate_91 : decode prog_1_method_15_code 91 = .ok (.ifCond .eq 7, 3) := by decide +kernel
theorem d_Y_gate_94 : decode prog_1_method_15_code 94 = .ok (.iconst 1, 1) := by decide +kernel
theorem d_Y_gate_95 : decode prog_1_method_15_code 95 = .ok (.goto 4, 3) := by decide +kernel
theorem d_Y_gate_98 : decode prog_1_method_15_code 98 = .ok (.iconst 0, 1) := by decide +kernel
theorem d_Y_gate_99 : decode prog_1_method_15_code 99 = .ok (.ireturn, 1) := by decide +kernel
theorem d_Y_gate_100 : decode prog_1_method_15_code 100 = .ok (.aload_n 0, 1) := by decide +kernel
theorem d_Y_gate_101 : decode prog_1_method_15_code 101 = .ok (.getfield 62, 3) := by decide +kernel
theorem d_Y_gate_104 : decode prog_1_method_15_code 104 = .ok (.iload_n 1, 1) := by decide +kernel
theorem d_Y_gate_105 : decode prog_1_method_15_code 105 = .ok (.aaload, 1) := by decide +kernel
theorem d_Y_gate_106 : decode prog_1_method_15_code 106 = .ok (.getfield 186, 3) := by decide +kernel
theorem d_Y_gate_109 : decode prog_1_method_15_code 109 = .ok (.getfield 168, 3) := by decide +kernel
theorem d_Y_gate_112 : decode prog_1_method_15_code 112 = .ok (.ireturn, 1) := by decide +kernel
theorem d_Y_gate_113 : decode prog_1_method_15_code 113 = .ok (.iconst (-1), 1) := by decide +kernel
theorem d_Y_gate_114 : decode prog_1_method_15_code 114 = .ok (.ireturn, 1) := by decide +kernel
theorem d_Y_count_0 : decode prog_1_method_16_code 0 = .ok (.iload_n 1, 1) := by decide +kernel
theorem d_Y_count_1 : decode prog_1_method_16_code 1 = .ok (.tableswitch 93 0 7 #[47, 52, 57, 62, 67, 72, 80, 85], 47) := by decide +kernel
theorem d_Y_count_48 : decode prog_1_method_16_code 48 = .ok (.aload_n 0, 1) := by decide +kernel
theorem d_Y_count_49 : decode prog_1_method_16_code 49 = .ok (.getfield 20, 3) := by decide +kernel
theorem d_Y_count_52 : decode prog_1_method_16_code 52 = .ok (.ireturn, 1) := by decide +kernel
theorem d_Y_count_53 : decode prog_1_method_16_code 53 = .ok (.aload_n 0, 1) := by decide +kernel
theorem d_Y_count_54 : decode prog_1_method_16_code 54 = .ok (.getfield 30, 3) := by decide +kernel
theorem d_Y_count_57 : decode prog_1_method_16_code 57 = .ok (.ireturn, 1) := by decide +kernel
theorem d_Y_count_58 : decode prog_1_method_16_code 58 = .ok (.aload_n 0, 1) := by decide +kernel
theorem d_Y_count_59 : decode prog_1_method_16_code 59 = .ok (.invokevirtual 187, 3) := by decide +kernel
theorem d_Y_count_62 : decode prog_1_method_16_code 62 = .ok (.ireturn, 1) := by decide +kernel
theorem d_Y_count_63 : decode prog_1_method_16_code 63 = .ok (.aload_n 0, 1) := by decide +kernel
theorem d_Y_count_64 : decode prog_1_method_16_code 64 = .ok (.getfield 66, 3) := by decide +kernel
theorem d_Y_count_67 : decode prog_1_method_16_code 67 = .ok (.ireturn, 1) := by decide +kernel
theorem d_Y_count_68 : decode prog_1_method_16_code 68 = .ok (.aload_n 0, 1) := by decide +kernel
theorem d_Y_count_69 : decode prog_1_method_16_code 69 = .ok (.getfield 69, 3) := by decide +kernel
theorem d_Y_count_72 : decode prog_1_method_16_code 72 = .ok (.ireturn, 1) := by decide +kernel
theorem d_Y_count_73 : decode prog_1_method_16_code 73 = .ok (.aload_n 0, 1) := by decide +kernel
theorem d_Y_count_74 : decode prog_1_method_16_code 74 = .ok (.getfield 45, 3) := by decide +kernel
theorem d_Y_count_77 : decode prog_1_method_16_code 77 = .ok (.getfield 168, 3) := by decide +kernel
theorem d_Y_count_80 : decode prog_1_method_16_code 80 = .ok (.ireturn, 1) := by decide +kernel
theorem d_Y_count_81 : decode prog_1_method_16_code 81 = .ok (.aload_n 0, 1) := by decide +kernel
theorem d_Y_count_82 : decode prog_1_method_16_code 82 = .ok (.getfield 72, 3) := by decide +kernel
theorem d_Y_count_85 : decode prog_1_method_16_code 85 = .ok (.ireturn, 1) := by decide +kernel
theorem d_Y_count_86 : decode prog_1_method_16_code 86 = .ok (.aload_n 0, 1) := by decide +kernel
theorem d_Y_count_87 : decode prog_1_method_16_code 87 = .ok (.getfield 12, 3) := by decide +kernel
theorem d_Y_count_90 : decode prog_1_method_16_code 90 = .ok (.getfield 89, 3) := by decide +kernel
theorem d_Y_count_93 : decode prog_1_method_16_code 93 = .ok (.ireturn, 1) := by decide +kernel
theorem d_Y_count_94 : decode prog_1_method_16_code 94 = .ok (.iconst (-1), 1) := by decide +kernel
theorem d_Y_count_95 : decode prog_1_method_16_code 95 = .ok (.ireturn, 1) := by decide +kernel
theorem d_Y_whereQueued_0 : decode prog_1_method_17_code 0 = .ok (.aload_n 0, 1) := by decide +kernel
theorem d_Y_whereQueued_1 : decode prog_1_method_17_code 1 = .ok (.getfield 45, 3) := by decide +kernel
theorem d_Y_whereQueued_4 : decode prog_1_method_17_code 4 = .ok (.iload_n 1, 1) := by decide +kernel
theorem d_Y_whereQueued_5 : decode prog_1_method_17_code 5 = .ok (.invokevirtual 191, 3) := by decide +kernel
theorem d_Y_whereQueued_8 : decode prog_1_method_17_code 8 = .ok (.ifCond .eq 5, 3) := by decide +kernel
theorem d_Y_whereQueued_11 : decode prog_1_method_17_code 11 = .ok (.iconst 1, 1) := by decide +kernel
theorem d_Y_whereQueued_12 : decode prog_1_method_17_code 12 = .ok (.ireturn, 1) := by decide +kernel
theorem d_Y_whereQueued_13 : decode prog_1_method_17_code 13 = .ok (.aload_n 0, 1) := by decide +kernel
theorem d_Y_whereQueued_14 : decode prog_1_method_17_code 14 = .ok (.getfield 38, 3) := by decide +kernel
theorem d_Y_whereQueued_17 : decode prog_1_method_17_code 17 = .ok (.astore_n 2, 1) := by decide +kernel
theorem d_Y_whereQueued_18 : decode prog_1_method_17_code 18 = .ok (.aload_n 2, 1) := by decide +kernel
theorem d_Y_whereQueued_19 : decode prog_1_method_17_code 19 = .ok (.arraylength, 1) := by decide +kernel
theorem d_Y_whereQueued_20 : decode prog_1_method_17_code 20 = .ok (.istore_n 3, 1) := by decide +kernel
theorem d_Y_whereQueued_21 : decode prog_1_method_17_code 21 = .ok (.iconst 0, 1) := by decide +kernel
theorem d_Y_whereQueued_22 : decode prog_1_method_17_code 22 = .ok (.istore 4, 2) := by decide +kernel
theorem d_Y_whereQueued_24 : decode prog_1_method_17_code 24 = .ok (.iload 4, 2) := by decide +kernel
theorem d_Y_whereQueued_26 : decode prog_1_method_17_code 26 = .ok (.iload_n 3, 1) := by decide +kernel
theorem d_Y_whereQueued_27 : decode prog_1_method_17_code 27 = .ok (.if_icmp .ge 52, 3) := by decide +kernel
theorem d_Y_whereQueued_30 : decode prog_1_method_17_code 30 = .ok (.aload_n 2, 1) := by decide +kernel
theorem d_Y_whereQueued_31 : decode prog_1_method_17_code 31 = .ok (.iload 4, 2) := by decide +kernel
theorem d_Y_whereQueued_33 : decode prog_1_method_17_code 33 = .ok (.aaload, 1) := by decide +kernel
theorem d_Y_whereQueued_34 : decode prog_1_method_17_code 34 = .ok (.astore 5, 2) := by decide +kernel
theorem d_Y_whereQueued_36 : decode prog_1_method_17_code 36 = .ok (.aload 5, 2) := by decide +kernel
theorem d_Y_whereQueued_38 : decode prog_1_method_17_code 38 = .ok (.getfield 159, 3) := by decide +kernel
theorem d_Y_whereQueued_41 : decode prog_1_method_17_code 41 = .ok (.iload_n 1, 1) := by decide +kernel
theorem d_Y_whereQueued_42 : decode prog_1_method_17_code 42 = .ok (.if_icmp .ne 11, 3) := by decide +kernel
theorem d_Y_whereQueued_45 : decode prog_1_method_17_code 45 = .ok (.iconst 2, 1) := by decide +kernel
theorem d_Y_whereQueued_46 : decode prog_1_method_17_code 46 = .ok (.aload 5, 2) := by decide +kernel
theorem d_Y_whereQueued_48 : decode prog_1_method_17_code 48 = .ok (.getfield 195, 3) := by decide +kernel
theorem d_Y_whereQueued_51 : decode prog_1_method_17_code 51 = .ok (.iadd, 1) := by decide +kernel
theorem d_Y_whereQueued_52 : decode prog_1_method_17_code 52 = .ok (.ireturn, 1) := by decide +kernel
theorem d_Y_whereQueued_53 : decode prog_1_method_17_code 53 = .ok (.aload 5, 2) := by decide +kernel
theorem d_Y_whereQueued_55 : decode prog_1_method_17_code 55 = .ok (.getfield 165, 3) := by decide +kernel
theorem d_Y_whereQueued_58 : decode prog_1_method_17_code 58 = .ok (.iload_n 1, 1) := by decide +kernel
theorem d_Y_whereQueued_59 : decode prog_1_method_17_code 59 = .ok (.invokevirtual 191, 3) := by decide +kernel
theorem d_Y_whereQueued_62 : decode prog_1_method_17_code 62 = .ok (.ifCond .eq 11, 3) := by decide +kernel
theorem d_Y_whereQueued_65 : decode prog_1_method_17_code 65 = .ok (.iconst 5, 1) := by decide +kernel
theorem d_Y_whereQueued_66 : decode prog_1_method_17_code 66 = .ok (.aload 5, 2) := by decide +kernel
theorem d_Y_whereQueued_68 : decode prog_1_method_17_code 68 = .ok (.getfield 195, 3) := by decide +kernel
theorem d_Y_whereQueued_71 : decode prog_1_method_17_code 71 = .ok (.iadd, 1) := by decide +kernel
theorem d_Y_whereQueued_72 : decode prog_1_method_17_code 72 = .ok (.ireturn, 1) := by decide +kernel
theorem d_Y_whereQueued_73 : decode prog_1_method_17_code 73 = .ok (.iinc 4 1, 3) := by decide +kernel
theorem d_Y_whereQueued_76 : decode prog_1_method_17_code 76 = .ok (.goto (-52), 3) := by decide +kernel
theorem d_Y_whereQueued_79 : decode prog_1_method_17_code 79 = .ok (.iconst 0, 1) := by decide +kernel
theorem d_Y_whereQueued_80 : decode prog_1_method_17_code 80 = .ok (.ireturn, 1) := by decide +kernel
theorem d_Y_gotByFirst_0 : decode prog_1_method_18_code 0 = .ok (.aload_n 1, 1) := by decide +kernel
theorem d_Y_gotByFirst_1 : decode prog_1_method_18_code 1 = .ok (.getfield 175, 3) := by decide +kernel
theorem d_Y_gotByFirst_4 : decode prog_1_method_18_code 4 = .ok (.invokevirtual 198, 3) := by decide +kernel
theorem d_Y_gotByFirst_7 : decode prog_1_method_18_code 7 = .ok (.ifCond .eq 5, 3) := by decide +kernel
theorem d_Y_gotByFirst_10 : decode prog_1_method_18_code 10 = .ok (.iconst 0, 1) := by decide +kernel
theorem d_Y_gotByFirst_11 : decode prog_1_method_18_code 11 = .ok (.ireturn, 1) := by decide +kernel
theorem d_Y_gotByFirst_12 : decode prog_1_method_18_code 12 = .ok (.aload_n 1, 1) := by decide +kernel
theorem d_Y_gotByFirst_13 : decode prog_1_method_18_code 13 = .ok (.getfield 175, 3) := by decide +kernel
theorem d_Y_gotByFirst_16 : decode prog_1_method_18_code 16 = .ok (.iconst 0, 1) := by decide +kernel
theorem d_Y_gotByFirst_17 : decode prog_1_method_18_code 17 = .ok (.invokevirtual 169, 3) := by decide +kernel
theorem d_Y_gotByFirst_20 : decode prog_1_method_18_code 20 = .ok (.istore_n 2, 1) := by decide +kernel
theorem d_Y_gotByFirst_21 : decode prog_1_method_18_code 21 = .ok (.aload_n 0, 1) := by decide +kernel
theorem d_Y_gotByFirst_22 : decode prog_1_method_18_code 22 = .ok (.iload_n 2, 1) := by decide +kernel
theorem d_Y_gotByFirst_23 : decode prog_1_method_18_code 23 = .ok (.invokevirtual 201, 3) := by decide +kernel
theorem d_Y_gotByFirst_26 : decode prog_1_method_18_code 26 = .ok (.astore_n 3, 1) := by decide +kernel
theorem d_Y_gotByFirst_27 : decode prog_1_method_18_code 27 = .ok (.aload_n 3, 1) := by decide +kernel
theorem d_Y_gotByFirst_28 : decode prog_1_method_18_code 28 = .ok (.ifnonnull 7, 3) := by decide +kernel
theorem d_Y_gotByFirst_31 : decode prog_1_method_18_code 31 = .ok (.iconst 0, 1) := by decide +kernel
theorem d_Y_gotByFirst_32 : decode prog_1_method_18_code 32 = .ok (.goto 12, 3) := by decide +kernel
theorem d_Y_gotByFirst_35 : decode prog_1_method_18_code 35 = .ok (.aload_n 3, 1) := by decide +kernel
theorem d_Y_gotByFirst_36 : decode prog_1_method_18_code 36 = .ok (.getfield 204, 3) := by decide +kernel
theorem d_Y_gotByFirst_39 : decode prog_1_method_18_code 39 = .ok (.iload_n 2, 1) := by decide +kernel
theorem d_Y_gotByFirst_40 : decode prog_1_method_18_code 40 = .ok (.bipush 12, 2) := by decide +kernel
theorem d_Y_gotByFirst_42 : decode prog_1_method_18_code 42 = .ok (.irem, 1) := by decide +kernel
theorem d_Y_gotByFirst_43 : decode prog_1_method_18_code 43 = .ok (.iaload, 1) := by decide +kernel
theorem d_Y_gotByFirst_44 : decode prog_1_method_18_code 44 = .ok (.ireturn, 1) := by decide +kernel
theorem d_Y_tasksNotEnded_0 : decode prog_1_method_19_code 0 = .ok (.iconst 0, 1) := by decide +kernel
theorem d_Y_tasksNotEnded_1 : decode prog_1_method_19_code 1 = .ok (.istore_n 1, 1) := by decide +kernel
theorem d_Y_tasksNotEnded_2 : decode prog_1_method_19_code 2 = .ok (.iconst 0, 1) := by decide +kernel
theorem d_Y_tasksNotEnded_3 : decode prog_1_method_19_code 3 = .ok (.istore_n 2, 1) := by decide +kernel
theorem d_Y_tasksNotEnded_4 : decode prog_1_method_19_code 4 = .ok (.iload_n 2, 1) := by decide +kernel
theorem d_Y_tasksNotEnded_5 : decode prog_1_method_19_code 5 = .ok (.aload_n 0, 1) := by decide +kernel
theorem d_Y_tasksNotEnded_6 : decode prog_1_method_19_code 6 = .ok (.getfield 30, 3) := by decide +kernel
theorem d_Y_tasksNotEnded_9 : decode prog_1_method_19_code 9 = .ok (.if_icmp .ge 29, 3) := by decide +kernel
theorem d_Y_tasksNotEnded_12 : decode prog_1_method_19_code 12 = .ok (.aload_n 0, 1) := by decide +kernel
theorem d_Y_tasksNotEnded_13 : decode prog_1_method_19_code 13 = .ok (.iload_n 2, 1) := by decide +kernel
theorem d_Y_tasksNotEnded_14 : decode prog_1_method_19_code 14 = .ok (.invokevirtual 113, 3) := by decide +kernel
theorem d_Y_tasksNotEnded_17 : decode prog_1_method_19_code 17 = .ok (.astore_n 3, 1) := by decide +kernel
theorem d_Y_tasksNotEnded_18 : decode prog_1_method_19_code 18 = .ok (.aload_n 3, 1) := by decide +kernel
theorem d_Y_tasksNotEnded_19 : decode prog_1_method_19_code 19 = .ok (.ifnull 13, 3) := by decide +kernel
theorem d_Y_tasksNotEnded_22 : decode prog_1_method_19_code 22 = .ok (.aload_n 3, 1) := by decide +kernel
theorem d_Y_tasksNotEnded_23 : decode prog_1_method_19_code 23 = .ok (.invokevirtual 117, 3) := by decide +kernel
theorem d_Y_tasksNotEnded_26 : decode prog_1_method_19_code 26 = .ok (.ifCond .ne 6, 3) := by decide +kernel
theorem d_Y_tasksNotEnded_29 : decode prog_1_method_19_code 29 = .ok (.iinc 1 1, 3) := by decide +kernel
theorem d_Y_tasksNotEnded_32 : decode prog_1_method_19_code 32 = .ok (.iinc 2 1, 3) := by decide +kernel
theorem d_Y_tasksNotEnded_35 : decode prog_1_method_19_code 35 = .ok (.goto (-31), 3) := by decide +kernel
theorem d_Y_tasksNotEnded_38 : decode prog_1_method_19_code 38 = .ok (.iload_n 1, 1) := by decide +kernel
theorem d_Y_tasksNotEnded_39 : decode prog_1_method_19_code 39 = .ok (.ireturn, 1) := by decide +kernel
theorem d_Y_taskAt_0 : decode prog_1_method_20_code 0 = .ok (.iload_n 1, 1) := by decide +kernel
theorem d_Y_taskAt_1 : decode prog_1_method_20_code 1 = .ok (.ifCond .lt 17, 3) := by decide +kernel
theorem d_Y_taskAt_4 : decode prog_1_method_20_code 4 = .ok (.iload_n 1, 1) := by decide +kernel
theorem d_Y_taskAt_5 : decode prog_1_method_20_code 5 = .ok (.aload_n 0, 1) := by decide +kernel
theorem d_Y_taskAt_6 : decode prog_1_method_20_code 6 = .ok (.getfield 30, 3) := by decide +kernel
theorem d_Y_taskAt_9 : decode prog_1_method_20_code 9 = .ok (.if_icmp .ge 9, 3) := by decide +kernel
theorem d_Y_taskAt_12 : decode prog_1_method_20_code 12 = .ok (.iload_n 1, 1) := by decide +kernel
theorem d_Y_taskAt_13 : decode prog_1_method_20_code 13 = .ok (.bipush 12, 2) := by decide +kernel
theorem d_Y_taskAt_15 : decode prog_1_method_20_code 15 = .ok (.if_icmp .lt 7, 3) := by decide +kernel
theorem d_Y_taskAt_18 : decode prog_1_method_20_code 18 = .ok (.aconst_null, 1) := by decide +kernel
theorem d_Y_taskAt_19 : decode prog_1_method_20_code 19 = .ok (.goto 9, 3) := by decide +kernel
theorem d_Y_taskAt_22 : decode prog_1_method_20_code 22 = .ok (.aload_n 0, 1) := by decide +kernel
theorem d_Y_taskAt_23 : decode prog_1_method_20_code 23 = .ok (.getfield 26, 3) := by decide +kernel
theorem d_Y_taskAt_26 : decode prog_1_method_20_code 26 = .ok (.iload_n 1, 1) := by decide +kernel
theorem d_Y_taskAt_27 : decode prog_1_method_20_code 27 = .ok (.aaload, 1) := by decide +kernel
theorem d_Y_taskAt_28 : decode prog_1_method_20_code 28 = .ok (.areturn, 1) := by decide +kernel
theorem d_Y_ownerOf_0 : decode prog_1_method_21_code 0 = .ok (.iload_n 1, 1) := by decide +kernel
theorem d_Y_ownerOf_1 : decode prog_1_method_21_code 1 = .ok (.ifCond .ge 7, 3) := by decide +kernel
theorem d_Y_ownerOf_4 : decode prog_1_method_21_code 4 = .ok (.aconst_null, 1) := by decide +kernel
theorem d_Y_ownerOf_5 : decode prog_1_method_21_code 5 = .ok (.goto 11, 3) := by decide +kernel
theorem d_Y_ownerOf_8 : decode prog_1_method_21_code 8 = .ok (.aload_n 0, 1) := by decide +kernel
theorem d_Y_ownerOf_9 : decode prog_1_method_21_code 9 = .ok (.iload_n 1, 1) := by decide +kernel
theorem d_Y_ownerOf_10 : decode prog_1_method_21_code 10 = .ok (.bipush 12, 2) := by decide +kernel
theorem d_Y_ownerOf_12 : decode prog_1_method_21_code 12 = .ok (.idiv, 1) := by decide +kernel
theorem d_Y_ownerOf_13 : decode prog_1_method_21_code 13 = .ok (.invokevirtual 113, 3) := by decide +kernel
theorem d_Y_ownerOf_16 : decode prog_1_method_21_code 16 = .ok (.areturn, 1) := by decide +kernel
theorem d_Y_makeTask_0 : decode prog_1_method_22_code 0 = .ok (.iload_n 1, 1) := by decide +kernel
theorem d_Y_makeTask_1 : decode prog_1_method_22_code 1 = .ok (.ifCond .lt 20, 3) := by decide +kernel
theorem d_Y_makeTask_4 : decode prog_1_method_22_code 4 = .ok (.iload_n 1, 1) := by decide +kernel
theorem d_Y_makeTask_5 : decode prog_1_method_22_code 5 = .ok (.aload_n 0, 1) := by decide +kernel
theorem d_Y_makeTask_6 : decode prog_1_method_22_code 6 = .ok (.getfield 20, 3) := by decide +kernel
theorem d_Y_makeTask_9 : decode prog_1_method_22_code 9 = .ok (.if_icmp .ge 12, 3) := by decide +kernel
theorem d_Y_makeTask_12 : decode prog_1_method_22_code 12 = .ok (.aload_n 0, 1) := by decide +kernel
theorem d_Y_makeTask_13 : decode prog_1_method_22_code 13 = .ok (.getfield 30, 3) := by decide +kernel
theorem d_Y_makeTask_16 : decode prog_1_method_22_code 16 = .ok (.bipush 12, 2) := by decide +kernel
theorem d_Y_makeTask_18 : decode prog_1_method_22_code 18 = .ok (.if_icmp .lt 5, 3) := by decide +kernel
theorem d_Y_makeTask_21 : decode prog_1_method_22_code 21 = .ok (.iconst (-1), 1) := by decide +kernel
theorem d_Y_makeTask_22 : decode prog_1_method_22_code 22 = .ok (.ireturn, 1) := by decide +kernel
theorem d_Y_makeTask_23 : decode prog_1_method_22_code 23 = .ok (.aload_n 0, 1) := by decide +kernel
theorem d_Y_makeTask_24 : decode prog_1_method_22_code 24 = .ok (.getfield 30, 3) := by decide +kernel
theorem d_Y_makeTask_27 : decode prog_1_method_22_code 27 = .ok (.istore_n 2, 1) := by decide +kernel
theorem d_Y_makeTask_28 : decode prog_1_method_22_code 28 = .ok (.aload_n 0, 1) := by decide +kernel
theorem d_Y_makeTask_29 : decode prog_1_method_22_code 29 = .ok (.getfield 26, 3) := by decide +kernel
theorem d_Y_makeTask_32 : decode prog_1_method_22_code 32 = .ok (.iload_n 2, 1) := by decide +kernel
theorem d_Y_makeTask_33 : decode prog_1_method_22_code 33 = .ok (.new 24, 3) := by decide +kernel
theorem d_Y_makeTask_36 : decode prog_1_method_22_code 36 = .ok (.dup, 1) := by decide +kernel
theorem d_Y_makeTask_37 : decode prog_1_method_22_code 37 = .ok (.iload_n 2, 1) := by decide +kernel
theorem d_Y_makeTask_38 : decode prog_1_method_22_code 38 = .ok (.iload_n 1, 1) := by decide +kernel
theorem d_Y_makeTask_39 : decode prog_1_method_22_code 39 = .ok (.aload_n 0, 1) := by decide +kernel
theorem d_Y_makeTask_40 : decode prog_1_method_22_code 40 = .ok (.getfield 16, 3) := by decide +kernel
theorem d_Y_makeTask_43 : decode prog_1_method_22_code 43 = .ok (.iload_n 1, 1) := by decide +kernel
theorem d_Y_makeTask_44 : decode prog_1_method_22_code 44 = .ok (.aaload, 1) := by decide +kernel
theorem d_Y_makeTask_45 : decode prog_1_method_22_code 45 = .ok (.invokespecial 207, 3) := by decide +kernel
theorem d_Y_makeTask_48 : decode prog_1_method_22_code 48 = .ok (.aastore, 1) := by decide +kernel
theorem d_Y_makeTask_49 : decode prog_1_method_22_code 49 = .ok (.aload_n 0, 1) := by decide +kernel
theorem d_Y_makeTask_50 : decode prog_1_method_22_code 50 = .ok (.dup, 1) := by decide +kernel
theorem d_Y_makeTask_51 : decode prog_1_method_22_code 51 = .ok (.getfield 30, 3) := by decide +kernel
theorem d_Y_makeTask_54 : decode prog_1_method_22_code 54 = .ok (.iconst 1, 1) := by decide +kernel
theorem d_Y_makeTask_55 : decode prog_1_method_22_code 55 = .ok (.iadd, 1) := by decide +kernel
theorem d_Y_makeTask_56 : decode prog_1_method_22_code 56 = .ok (.putfield 30, 3) := by decide +kernel
theorem d_Y_makeTask_59 : decode prog_1_method_22_code 59 = .ok (.aload_n 0, 1) := by decide +kernel
theorem d_Y_makeTask_60 : decode prog_1_method_22_code 60 = .ok (.getfield 49, 3) := by decide +kernel
theorem d_Y_makeTask_63 : decode prog_1_method_22_code 63 = .ok (.iload_n 2, 1) := by decide +kernel
theorem d_Y_makeTask_64 : decode prog_1_method_22_code 64 = .ok (.invokevirtual 210, 3) := by decide +kernel
theorem d_Y_makeTask_67 : decode prog_1_method_22_code 67 = .ok (.iload_n 2, 1) := by decide +kernel
theorem d_Y_makeTask_68 : decode prog_1_method_22_code 68 = .ok (.ireturn, 1) := by decide +kernel
theorem d_Y_wakeTask_0 : decode prog_1_method_23_code 0 = .ok (.aload_n 1, 1) := by decide +kernel
theorem d_Y_wakeTask_1 : decode prog_1_method_23_code 1 = .ok (.getfield 123, 3) := by decide +kernel
theorem d_Y_wakeTask_4 : decode prog_1_method_23_code 4 = .ok (.ifCond .ne 22, 3) := by decide +kernel
theorem d_Y_wakeTask_7 : decode prog_1_method_23_code 7 = .ok (.aload_n 1, 1) := by decide +kernel
theorem d_Y_wakeTask_8 : decode prog_1_method_23_code 8 = .ok (.iconst 1, 1) := by decide +kernel
theorem d_Y_wakeTask_9 : decode prog_1_method_23_code 9 = .ok (.putfield 123, 3) := by decide +kernel
theorem d_Y_wakeTask_12 : decode prog_1_method_23_code 12 = .ok (.aload_n 0, 1) := by decide +kernel
theorem d_Y_wakeTask_13 : decode prog_1_method_23_code 13 = .ok (.getfield 49, 3) := by decide +kernel
theorem d_Y_wakeTask_16 : decode prog_1_method_23_code 16 = .ok (.aload_n 1, 1) := by decide +kernel
theorem d_Y_wakeTask_17 : decode prog_1_method_23_code 17 = .ok (.getfield 213, 3) := by decide +kernel
theorem d_Y_wakeTask_20 : decode prog_1_method_23_code 20 = .ok (.invokevirtual 210, 3) := by decide +kernel
theorem d_Y_wakeTask_23 : decode prog_1_method_23_code 23 = .ok (.goto 16, 3) := by decide +kernel
theorem d_Y_wakeTask_26 : decode prog_1_method_23_code 26 = .ok (.aload_n 1, 1) := by decide +kernel
theorem d_Y_wakeTask_27 : decode prog_1_method_23_code 27 = .ok (.getfield 123, 3) := by decide +kernel
theorem d_Y_wakeTask_30 : decode prog_1_method_23_code 30 = .ok (.iconst 5, 1) := by decide +kernel
theorem d_Y_wakeTask_31 : decode prog_1_method_23_code 31 = .ok (.if_icmp .ne 8, 3) := by decide +kernel
theorem d_Y_wakeTask_34 : decode prog_1_method_23_code 34 = .ok (.aload_n 1, 1) := by decide +kernel
theorem d_Y_wakeTask_35 : decode prog_1_method_23_code 35 = .ok (.iconst 1, 1) := by decide +kernel
theorem d_Y_wakeTask_36 : decode prog_1_method_23_code 36 = .ok (.putfield 214, 3) := by decide +kernel
theorem d_Y_wakeTask_39 : decode prog_1_method_23_code 39 = .ok (.return_, 1) := by decide +kernel
theorem d_Y_wakeReapers_0 : decode prog_1_method_24_code 0 = .ok (.iconst 0, 1) := by decide +kernel
theorem d_Y_wakeReapers_1 : decode prog_1_method_24_code 1 = .ok (.istore_n 2, 1) := by decide +kernel
theorem d_Y_wakeReapers_2 : decode prog_1_method_24_code 2 = .ok (.iload_n 2, 1) := by decide +kernel
theorem d_Y_wakeReapers_3 : decode prog_1_method_24_code 3 = .ok (.aload_n 0, 1) := by decide +kernel
theorem d_Y_wakeReapers_4 : decode prog_1_method_24_code 4 = .ok (.getfield 30, 3) := by decide +kernel
theorem d_Y_wakeReapers_7 : decode prog_1_method_24_code 7 = .ok (.if_icmp .ge 32, 3) := by decide +kernel
theorem d_Y_wakeReapers_10 : decode prog_1_method_24_code 10 = .ok (.aload_n 0, 1) := by decide +kernel
theorem d_Y_wakeReapers_11 : decode prog_1_method_24_code 11 = .ok (.iload_n 2, 1) := by decide +kernel
theorem d_Y_wakeReapers_12 : decode prog_1_method_24_code 12 = .ok (.invokevirtual 113, 3) := by decide +kernel
theorem d_Y_wakeReapers_15 : decode prog_1_method_24_code 15 = .ok (.astore_n 3, 1) := by decide +kernel
theorem d_Y_wakeReapers_16 : decode prog_1_method_24_code 16 = .ok (.aload_n 3, 1) := by decide +kernel
theorem d_Y_wakeReapers_17 : decode prog_1_method_24_code 17 = .ok (.ifnull 16, 3) := by decide +kernel
theorem d_Y_wakeReapers_20 : decode prog_1_method_24_code 20 = .ok (.aload_n 3, 1) := by decide +kernel
theorem d_Y_wakeReapers_21 : decode prog_1_method_24_code 21 = .ok (.iload_n 1, 1) := by decide +kernel
theorem d_Y_wakeReapers_22 : decode prog_1_method_24_code 22 = .ok (.invokevirtual 217, 3) := by decide +kernel
theorem d_Y_wakeReapers_25 : decode prog_1_method_24_code 25 = .ok (.ifCond .eq 8, 3) := by decide +kernel
theorem d_Y_wakeReapers_28 : decode prog_1_method_24_code 28 = .ok (.aload_n 0, 1) := by decide +kernel
theorem d_Y_wakeReapers_29 : decode prog_1_method_24_code 29 = .ok (.aload_n 3, 1) := by decide +kernel
theorem d_Y_wakeReapers_30 : decode prog_1_method_24_code 30 = .ok (.invokevirtual 220, 3) := by decide +kernel
theorem d_Y_wakeReapers_33 : decode prog_1_method_24_code 33 = .ok (.iinc 2 1, 3) := by decide +kernel
theorem d_Y_wakeReapers_36 : decode prog_1_method_24_code 36 = .ok (.goto (-34), 3) := by decide +kernel
theorem d_Y_wakeReapers_39 : decode prog_1_method_24_code 39 = .ok (.return_, 1) := by decide +kernel
theorem d_Y_wakeTheDue_0 : decode prog_1_method_25_code 0 = .ok (.iconst 0, 1) := by decide +kernel
theorem d_Y_wakeTheDue_1 : decode prog_1_method_25_code 1 = .ok (.istore_n 1, 1) := by decide +kernel
theorem d_Y_wakeTheDue_2 : decode prog_1_method_25_code 2 = .ok (.iload_n 1, 1) := by decide +kernel
theorem d_Y_wakeTheDue_3 : decode prog_1_method_25_code 3 = .ok (.aload_n 0, 1) := by decide +kernel
theorem d_Y_wakeTheDue_4 : decode prog_1_method_25_code 4 = .ok (.getfield 30, 3) := by decide +kernel
theorem d_Y_wakeTheDue_7 : decode prog_1_method_25_code 7 = .ok (.if_icmp .ge 35, 3) := by decide +kernel
theorem d_Y_wakeTheDue_10 : decode prog_1_method_25_code 10 = .ok (.aload_n 0, 1) := by decide +kernel
theorem d_Y_wakeTheDue_11 : decode prog_1_method_25_code 11 = .ok (.iload_n 1, 1) := by decide +kernel
theorem d_Y_wakeTheDue_12 : decode prog_1_method_25_code 12 = .ok (.invokevirtual 113, 3) := by decide +kernel
theorem d_Y_wakeTheDue_15 : decode prog_1_method_25_code 15 = .ok (.astore_n 2, 1) := by decide +kernel
theorem d_Y_wakeTheDue_16 : decode prog_1_method_25_code 16 = .ok (.aload_n 2, 1) := by decide +kernel
theorem d_Y_wakeTheDue_17 : decode prog_1_method_25_code 17 = .ok (.ifnull 19, 3) := by decide +kernel
theorem d_Y_wakeTheDue_20 : decode prog_1_method_25_code 20 = .ok (.aload_n 2, 1) := by decide +kernel
theorem d_Y_wakeTheDue_21 : decode prog_1_method_25_code 21 = .ok (.aload_n 0, 1) := by decide +kernel
theorem d_Y_wakeTheDue_22 : decode prog_1_method_25_code 22 = .ok (.getfield 66, 3) := by decide +kernel
theorem d_Y_wakeTheDue_25 : decode prog_1_method_25_code 25 = .ok (.invokevirtual 224, 3) := by decide +kernel
theorem d_Y_wakeTheDue_28 : decode prog_1_method_25_code 28 = .ok (.ifCond .eq 8, 3) := by decide +kernel
theorem d_Y_wakeTheDue_31 : decode prog_1_method_25_code 31 = .ok (.aload_n 0, 1) := by decide +kernel
theorem d_Y_wakeTheDue_32 : decode prog_1_method_25_code 32 = .ok (.aload_n 2, 1) := by decide +kernel
theorem d_Y_wakeTheDue_33 : decode prog_1_method_25_code 33 = .ok (.invokevirtual 220, 3) := by decide +kernel
theorem d_Y_wakeTheDue_36 : decode prog_1_method_25_code 36 = .ok (.iinc 1 1, 3) := by decide +kernel
theorem d_Y_wakeTheDue_39 : decode prog_1_method_25_code 39 = .ok (.goto (-37), 3) := by decide +kernel
theorem d_Y_wakeTheDue_42 : decode prog_1_method_25_code 42 = .ok (.return_, 1) := by decide +kernel
theorem d_Y_injectWoken_0 : decode prog_1_method_26_code 0 = .ok (.iconst 0, 1) := by decide +kernel
theorem d_Y_injectWoken_1 : decode prog_1_method_26_code 1 = .ok (.istore_n 1, 1) := by decide +kernel
theorem d_Y_injectWoken_2 : decode prog_1_method_26_code 2 = .ok (.iload_n 1, 1) := by decide +kernel
theorem d_Y_injectWoken_3 : decode prog_1_method_26_code 3 = .ok (.aload_n 0, 1) := by decide +kernel
theorem d_Y_injectWoken_4 : decode prog_1_method_26_code 4 = .ok (.getfield 49, 3) := by decide +kernel
theorem d_Y_injectWoken_7 : decode prog_1_method_26_code 7 = .ok (.getfield 168, 3) := by decide +kernel
theorem d_Y_injectWoken_10 : decode prog_1_method_26_code 10 = .ok (.if_icmp .ge 24, 3) := by decide +kernel
theorem d_Y_injectWoken_13 : decode prog_1_method_26_code 13 = .ok (.aload_n 0, 1) := by decide +kernel
theorem d_Y_injectWoken_14 : decode prog_1_method_26_code 14 = .ok (.getfield 45, 3) := by decide +kernel
theorem d_Y_injectWoken_17 : decode prog_1_method_26_code 17 = .ok (.aload_n 0, 1) := by decide +kernel
theorem d_Y_injectWoken_18 : decode prog_1_method_26_code 18 = .ok (.getfield 49, 3) := by decide +kernel
theorem d_Y_injectWoken_21 : decode prog_1_method_26_code 21 = .ok (.iload_n 1, 1) := by decide +kernel
theorem d_Y_injectWoken_22 : decode prog_1_method_26_code 22 = .ok (.invokevirtual 169, 3) := by decide +kernel
theorem d_Y_injectWoken_25 : decode prog_1_method_26_code 25 = .ok (.invokevirtual 210, 3) := by decide +kernel
theorem d_Y_injectWoken_28 : decode prog_1_method_26_code 28 = .ok (.iinc 1 1, 3) := by decide +kernel
theorem d_Y_injectWoken_31 : decode prog_1_method_26_code 31 = .ok (.goto (-29), 3) := by decide +kernel
theorem d_Y_injectWoken_34 : decode prog_1_method_26_code 34 = .ok (.aload_n 0, 1) := by decide +kernel
theorem d_Y_injectWoken_35 : decode prog_1_method_26_code 35 = .ok (.getfield 49, 3) := by decide +kernel
theorem d_Y_injectWoken_38 : decode prog_1_method_26_code 38 = .ok (.iconst 0, 1) := by decide +kernel
theorem d_Y_injectWoken_39 : decode prog_1_method_26_code 39 = .ok (.putfield 168, 3) := by decide +kernel
theorem d_Y_injectWoken_42 : decode prog_1_method_26_code 42 = .ok (.return_, 1) := by decide +kernel
theorem d_Y_slotWoken_0 : decode prog_1_method_27_code 0 = .ok (.iconst 0, 1) := by decide +kernel
theorem d_Y_slotWoken_1 : decode prog_1_method_27_code 1 = .ok (.istore_n 2, 1) := by decide +kernel
theorem d_Y_slotWoken_2 : decode prog_1_method_27_code 2 = .ok (.iload_n 2, 1) := by decide +kernel
theorem d_Y_slotWoken_3 : decode prog_1_method_27_code 3 = .ok (.aload_n 0, 1) := by decide +kernel
theorem d_Y_slotWoken_4 : decode prog_1_method_27_code 4 = .ok (.getfield 49, 3) := by decide +kernel
theorem d_Y_slotWoken_7 : decode prog_1_method_27_code 7 = .ok (.getfield 168, 3) := by decide +kernel
theorem d_Y_slotWoken_10 : decode prog_1_method_27_code 10 = .ok (.if_icmp .ge 38, 3) := by decide +kernel
theorem d_Y_slotWoken_13 : decode prog_1_method_27_code 13 = .ok (.aload_n 1, 1) := by decide +kernel
theorem d_Y_slotWoken_14 : decode prog_1_method_27_code 14 = .ok (.getfield 159, 3) := by decide +kernel
theorem d_Y_slotWoken_17 : decode prog_1_method_27_code 17 = .ok (.iconst (-1), 1) := by decide +kernel
theorem d_Y_slotWoken_18 : decode prog_1_method_27_code 18 = .ok (.if_icmp .eq 12, 3) := by decide +kernel
theorem d_Y_slotWoken_21 : decode prog_1_method_27_code 21 = .ok (.aload_n 0, 1) := by decide +kernel
theorem d_Y_slotWoken_22 : decode prog_1_method_27_code 22 = .ok (.aload_n 1, 1) := by decide +kernel
theorem d_Y_slotWoken_23 : decode prog_1_method_27_code 23 = .ok (.aload_n 1, 1) := by decide +kernel
theorem d_Y_slotWoken_24 : decode prog_1_method_27_code 24 = .ok (.getfield 159, 3) := by decide +kernel
theorem d_Y_slotWoken_27 : decode prog_1_method_27_code 27 = .ok (.invokevirtual 227, 3) := by decide +kernel
theorem d_Y_slotWoken_30 : decode prog_1_method_27_code 30 = .ok (.aload_n 1, 1) := by decide +kernel
theorem d_Y_slotWoken_31 : decode prog_1_method_27_code 31 = .ok (.aload_n 0, 1) := by decide +kernel
theorem d_Y_slotWoken_32 : decode prog_1_method_27_code 32 = .ok (.getfield 49, 3) := by decide +kernel
theorem d_Y_slotWoken_35 : decode prog_1_method_27_code 35 = .ok (.iload_n 2, 1) := by decide +kernel
theorem d_Y_slotWoken_36 : decode prog_1_method_27_code 36 = .ok (.invokevirtual 169, 3) := by decide +kernel
theorem d_Y_slotWoken_39 : decode prog_1_method_27_code 39 = .ok (.putfield 159, 3) := by decide +kernel
theorem d_Y_slotWoken_42 : decode prog_1_method_27_code 42 = .ok (.iinc 2 1, 3) := by decide +kernel
theorem d_Y_slotWoken_45 : decode prog_1_method_27_code 45 = .ok (.goto (-43), 3) := by decide +kernel
theorem d_Y_slotWoken_48 : decode prog_1_method_27_code 48 = .ok (.aload_n 0, 1) := by decide +kernel
theorem d_Y_slotWoken_49 : decode prog_1_method_27_code 49 = .ok (.getfield 49, 3) := by decide +kernel
theorem d_Y_slotWoken_52 : decode prog_1_method_27_code 52 = .ok (.iconst 0, 1) := by decide +kernel
theorem d_Y_slotWoken_53 : decode prog_1_method_27_code 53 = .ok (.putfield 168, 3) := by decide +kernel
theorem d_Y_slotWoken_56 : decode prog_1_method_27_code 56 = .ok (.return_, 1) := by decide +kernel
theorem d_Y_pushToRing_0 : decode prog_1_method_28_code 0 = .ok (.aload_n 1, 1) := by decide +kernel
theorem d_Y_pushToRing_1 : decode prog_1_method_28_code 1 = .ok (.getfield 165, 3) := by decide +kernel
theorem d_Y_pushToRing_4 : decode prog_1_method_28_code 4 = .ok (.getfield 168, 3) := by decide +kernel
theorem d_Y_pushToRing_7 : decode prog_1_method_28_code 7 = .ok (.iconst 4, 1) := by decide +kernel
theorem d_Y_pushToRing_8 : decode prog_1_method_28_code 8 = .ok (.if_icmp .ge 12, 3) := by decide +kernel
theorem d_Y_pushToRing_11 : decode prog_1_method_28_code 11 = .ok (.aload_n 1, 1) := by decide +kernel
theorem d_Y_pushToRing_12 : decode prog_1_method_28_code 12 = .ok (.getfield 165, 3) := by decide +kernel
theorem d_Y_pushToRing_15 : decode prog_1_method_28_code 15 = .ok (.iload_n 2, 1) := by decide +kernel
theorem d_Y_pushToRing_16 : decode prog_1_method_28_code 16 = .ok (.invokevirtual 210, 3) := by decide +kernel
theorem d_Y_pushToRing_19 : decode prog_1_method_28_code 19 = .ok (.return_, 1) := by decide +kernel
theorem d_Y_pushToRing_20 : decode prog_1_method_28_code 20 = .ok (.aload_n 0, 1) := by decide +kernel
theorem d_Y_pushToRing_21 : decode prog_1_method_28_code 21 = .ok (.getfield 45, 3) := by decide +kernel
theorem d_Y_pushToRing_24 : decode prog_1_method_28_code 24 = .ok (.aload_n 1, 1) := by decide +kernel
theorem d_Y_pushToRing_25 : decode prog_1_method_28_code 25 = .ok (.getfield 165, 3) := by decide +kernel
theorem d_Y_pushToRing_28 : decode prog_1_method_28_code 28 = .ok (.invokevirtual 231, 3) := by decide +kernel
theorem d_Y_pushToRing_31 : decode prog_1_method_28_code 31 = .ok (.invokevirtual 210, 3) := by decide +kernel
theorem d_Y_pushToRing_34 : decode prog_1_method_28_code 34 = .ok (.aload_n 0, 1) := by decide +kernel
theorem d_Y_pushToRing_35 : decode prog_1_method_28_code 35 = .ok (.getfield 45, 3) := by decide +kernel
theorem d_Y_pushToRing_38 : decode prog_1_method_28_code 38 = .ok (.aload_n 1, 1) := by decide +kernel
theorem d_Y_pushToRing_39 : decode prog_1_method_28_code 39 = .ok (.getfield 165, 3) := by decide +kernel
theorem d_Y_pushToRing_42 : decode prog_1_method_28_code 42 = .ok (.invokevirtual 231, 3) := by decide +kernel
theorem d_Y_pushToRing_45 : decode prog_1_method_28_code 45 = .ok (.invokevirtual 210, 3) := by decide +kernel
theorem d_Y_pushToRing_48 : decode prog_1_method_28_code 48 = .ok (.aload_n 0, 1) := by decide +kernel
theorem d_Y_pushToRing_49 : decode prog_1_method_28_code 49 = .ok (.getfield 45, 3) := by decide +kernel
theorem d_Y_pushToRing_52 : decode prog_1_method_28_code 52 = .ok (.iload_n 2, 1) := by decide +kernel
theorem d_Y_pushToRing_53 : decode prog_1_method_28_code 53 = .ok (.invokevirtual 210, 3) := by decide +kernel
theorem d_Y_pushToRing_56 : decode prog_1_method_28_code 56 = .ok (.return_, 1) := by decide +kernel
theorem d_Y_unqueue_0 : decode prog_1_method_29_code 0 = .ok (.aload_n 0, 1) := by decide +kernel
theorem d_Y_unqueue_1 : decode prog_1_method_29_code 1 = .ok (.getfield 45, 3) := by decide +kernel
theorem d_Y_unqueue_4 : decode prog_1_method_29_code 4 = .ok (.iload_n 1, 1) := by decide +kernel
theorem d_Y_unqueue_5 : decode prog_1_method_29_code 5 = .ok (.invokevirtual 234, 3) := by decide +kernel
theorem d_Y_unqueue_8 : decode prog_1_method_29_code 8 = .ok (.aload_n 0, 1) := by decide +kernel
theorem d_Y_unqueue_9 : decode prog_1_method_29_code 9 = .ok (.getfield 38, 3) := by decide +kernel
theorem d_Y_unqueue_12 : decode prog_1_method_29_code 12 = .ok (.astore_n 2, 1) := by decide +kernel
theorem d_Y_unqueue_13 : decode prog_1_method_29_code 13 = .ok (.aload_n 2, 1) := by decide +kernel
theorem d_Y_unqueue_14 : decode prog_1_method_29_code 14 = .ok (.arraylength, 1) := by decide +kernel
theorem d_Y_unqueue_15 : decode prog_1_method_29_code 15 = .ok (.istore_n 3, 1) := by decide +kernel
theorem d_Y_unqueue_16 : decode prog_1_method_29_code 16 = .ok (.iconst 0, 1) := by decide +kernel
theorem d_Y_unqueue_17 : decode prog_1_method_29_code 17 = .ok (.istore 4, 2) := by decide +kernel
theorem d_Y_unqueue_19 : decode prog_1_method_29_code 19 = .ok (.iload 4, 2) := by decide +kernel
theorem d_Y_unqueue_21 : decode prog_1_method_29_code 21 = .ok (.iload_n 3, 1) := by decide +kernel
theorem d_Y_unqueue_22 : decode prog_1_method_29_code 22 = .ok (.if_icmp .ge 39, 3) := by decide +kernel
theorem d_Y_unqueue_25 : decode prog_1_method_29_code 25 = .ok (.aload_n 2, 1) := by decide +kernel
theorem d_Y_unqueue_26 : decode prog_1_method_29_code 26 = .ok (.iload 4, 2) := by decide +kernel
theorem d_Y_unqueue_28 : decode prog_1_method_29_code 28 = .ok (.aaload, 1) := by decide +kernel
theorem d_Y_unqueue_29 : decode prog_1_method_29_code 29 = .ok (.astore 5, 2) := by decide +kernel
theorem d_Y_unqueue_31 : decode prog_1_method_29_code 31 = .ok (.aload 5, 2) := by decide +kernel
theorem d_Y_unqueue_33 : decode prog_1_method_29_code 33 = .ok (.getfield 165, 3) := by decide +kernel
theorem d_Y_unqueue_36 : decode prog_1_method_29_code 36 = .ok (.iload_n 1, 1) := by decide +kernel
theorem d_Y_unqueue_37 : decode prog_1_method_29_code 37 = .ok (.invokevirtual 234, 3) := by decide +kernel
theorem d_Y_unqueue_40 : decode prog_1_method_29_code 40 = .ok (.aload 5, 2) := by decide +kernel
theorem d_Y_unqueue_42 : decode prog_1_method_29_code 42 = .ok (.getfield 159, 3) := by decide +kernel
theorem d_Y_unqueue_45 : decode prog_1_method_29_code 45 = .ok (.iload_n 1, 1) := by decide +kernel
theorem d_Y_unqueue_46 : decode prog_1_method_29_code 46 = .ok (.if_icmp .ne 9, 3) := by decide +kernel
theorem d_Y_unqueue_49 : decode prog_1_method_29_code 49 = .ok (.aload 5, 2) := by decide +kernel
theorem d_Y_unqueue_51 : decode prog_1_method_29_code 51 = .ok (.iconst (-1), 1) := by decide +kernel
theorem d_Y_unqueue_52 : decode prog_1_method_29_code 52 = .ok (.putfield 159, 3) := by decide +kernel
theorem d_Y_unqueue_55 : decode prog_1_method_29_code 55 = .ok (.iinc 4 1, 3) := by decide +kernel
theorem d_Y_unqueue_58 : decode prog_1_method_29_code 58 = .ok (.goto (-39), 3) := by decide +kernel
theorem d_Y_unqueue_61 : decode prog_1_method_29_code 61 = .ok (.return_, 1) := by decide +kernel
theorem d_Y_takeTurn_0 : decode prog_1_method_30_code 0 = .ok (.aload_n 1, 1) := by decide +kernel
theorem d_Y_takeTurn_1 : decode prog_1_method_30_code 1 = .ok (.dup, 1) := by decide +kernel
theorem d_Y_takeTurn_2 : decode prog_1_method_30_code 2 = .ok (.getfield 162, 3) := by decide +kernel
theorem d_Y_takeTurn_5 : decode prog_1_method_30_code 5 = .ok (.iconst 1, 1) := by decide +kernel
theorem d_Y_takeTurn_6 : decode prog_1_method_30_code 6 = .ok (.iadd, 1) := by decide +kernel
theorem d_Y_takeTurn_7 : decode prog_1_method_30_code 7 = .ok (.putfield 162, 3) := by decide +kernel
theorem d_Y_takeTurn_10 : decode prog_1_method_30_code 10 = .ok (.aload_n 0, 1) := by decide +kernel
theorem d_Y_takeTurn_11 : decode prog_1_method_30_code 11 = .ok (.aload_n 0, 1) := by decide +kernel
theorem d_Y_takeTurn_12 : decode prog_1_method_30_code 12 = .ok (.aload_n 1, 1) := by decide +kernel
theorem d_Y_takeTurn_13 : decode prog_1_method_30_code 13 = .ok (.invokevirtual 237, 3) := by decide +kernel
theorem d_Y_takeTurn_16 : decode prog_1_method_30_code 16 = .ok (.invokevirtual 113, 3) := by decide +kernel
theorem d_Y_takeTurn_19 : decode prog_1_method_30_code 19 = .ok (.astore_n 2, 1) := by decide +kernel
theorem d_Y_takeTurn_20 : decode prog_1_method_30_code 20 = .ok (.aload_n 2, 1) := by decide +kernel
theorem d_Y_takeTurn_21 : decode prog_1_method_30_code 21 = .ok (.ifnonnull 6, 3) := by decide +kernel
theorem d_Y_takeTurn_24 : decode prog_1_method_30_code 24 = .ok (.bipush (-2), 2) := by decide +kernel
theorem d_Y_takeTurn_26 : decode prog_1_method_30_code 26 = .ok (.ireturn, 1) := by decide +kernel
theorem d_Y_takeTurn_27 : decode prog_1_method_30_code 27 = .ok (.aload_n 2, 1) := by decide +kernel
theorem d_Y_takeTurn_28 : decode prog_1_method_30_code 28 = .ok (.iconst 5, 1) := by decide +kernel
theorem d_Y_takeTurn_29 : decode prog_1_method_30_code 29 = .ok (.putfield 123, 3) := by decide +kernel
theorem d_Y_takeTurn_32 : decode prog_1_method_30_code 32 = .ok (.aload_n 2, 1) := by decide +kernel
theorem d_Y_takeTurn_33 : decode prog_1_method_30_code 33 = .ok (.iconst 0, 1) := by decide +kernel
theorem d_Y_takeTurn_34 : decode prog_1_method_30_code 34 = .ok (.putfield 214, 3) := by decide +kernel
theorem d_Y_takeTurn_37 : decode prog_1_method_30_code 37 = .ok (.aload_n 2, 1) := by decide +kernel
theorem d_Y_takeTurn_38 : decode prog_1_method_30_code 38 = .ok (.iconst 4, 1) := by decide +kernel
theorem d_Y_takeTurn_39 : decode prog_1_method_30_code 39 = .ok (.putfield 153, 3) := by decide +kernel
theorem d_Y_takeTurn_42 : decode prog_1_method_30_code 42 = .ok (.aload_n 2, 1) := by decide +kernel
theorem d_Y_takeTurn_43 : decode prog_1_method_30_code 43 = .ok (.dup, 1) := by decide +kernel
theorem d_Y_takeTurn_44 : decode prog_1_method_30_code 44 = .ok (.getfield 147, 3) := by decide +kernel
theorem d_Y_takeTurn_47 : decode prog_1_method_30_code 47 = .ok (.iconst 1, 1) := by decide +kernel
theorem d_Y_takeTurn_48 : decode prog_1_method_30_code 48 = .ok (.iadd, 1) := by decide +kernel
theorem d_Y_takeTurn_49 : decode prog_1_method_30_code 49 = .ok (.putfield 147, 3) := by decide +kernel
theorem d_Y_takeTurn_52 : decode prog_1_method_30_code 52 = .ok (.aload_n 0, 1) := by decide +kernel
theorem d_Y_takeTurn_53 : decode prog_1_method_30_code 53 = .ok (.dup, 1) := by decide +kernel
theorem d_Y_takeTurn_54 : decode prog_1_method_30_code 54 = .ok (.getfield 69, 3) := by decide +kernel
theorem d_Y_takeTurn_57 : decode prog_1_method_30_code 57 = .ok (.iconst 1, 1) := by decide +kernel
theorem d_Y_takeTurn_58 : decode prog_1_method_30_code 58 = .ok (.iadd, 1) := by decide +kernel
theorem d_Y_takeTurn_59 : decode prog_1_method_30_code 59 = .ok (.putfield 69, 3) := by decide +kernel
theorem d_Y_takeTurn_62 : decode prog_1_method_30_code 62 = .ok (.aload_n 0, 1) := by decide +kernel
theorem d_Y_takeTurn_63 : decode prog_1_method_30_code 63 = .ok (.aload_n 2, 1) := by decide +kernel
theorem d_Y_takeTurn_64 : decode prog_1_method_30_code 64 = .ok (.iconst 0, 1) := by decide +kernel
theorem d_Y_takeTurn_65 : decode prog_1_method_30_code 65 = .ok (.iconst 0, 1) := by decide +kernel
theorem d_Y_takeTurn_66 : decode prog_1_method_30_code 66 = .ok (.invokevirtual 240, 3) := by decide +kernel
theorem d_Y_takeTurn_69 : decode prog_1_method_30_code 69 = .ok (.iconst 1, 1) := by decide +kernel
theorem d_Y_takeTurn_70 : decode prog_1_method_30_code 70 = .ok (.if_icmp .ne 22, 3) := by decide +kernel
theorem d_Y_takeTurn_73 : decode prog_1_method_30_code 73 = .ok (.aload_n 2, 1) := by decide +kernel
theorem d_Y_takeTurn_74 : decode prog_1_method_30_code 74 = .ok (.aload_n 2, 1) := by decide +kernel
theorem d_Y_takeTurn_75 : decode prog_1_method_30_code 75 = .ok (.getfield 214, 3) := by decide +kernel
theorem d_Y_takeTurn_78 : decode prog_1_method_30_code 78 = .ok (.ifCond .eq 7, 3) := by decide +kernel
theorem d_Y_takeTurn_81 : decode prog_1_method_30_code 81 = .ok (.iconst 1, 1) := by decide +kernel
theorem d_Y_takeTurn_82 : decode prog_1_method_30_code 82 = .ok (.goto 4, 3) := by decide +kernel
theorem d_Y_takeTurn_85 : decode prog_1_method_30_code 85 = .ok (.iconst 0, 1) := by decide +kernel
theorem d_Y_takeTurn_86 : decode prog_1_method_30_code 86 = .ok (.putfield 123, 3) := by decide +kernel
theorem d_Y_takeTurn_89 : decode prog_1_method_30_code 89 = .ok (.goto 15, 3) := by decide +kernel
theorem d_Y_takeTurn_92 : decode prog_1_method_30_code 92 = .ok (.aload_n 2, 1) := by decide +kernel
theorem d_Y_takeTurn_93 : decode prog_1_method_30_code 93 = .ok (.invokevirtual 244, 3) := by decide +kernel
theorem d_Y_takeTurn_96 : decode prog_1_method_30_code 96 = .ok (.aload_n 0, 1) := by decide +kernel
theorem d_Y_takeTurn_97 : decode prog_1_method_30_code 97 = .ok (.aload_n 2, 1) := by decide +kernel
theorem d_Y_takeTurn_98 : decode prog_1_method_30_code 98 = .ok (.getfield 213, 3) := by decide +kernel
theorem d_Y_takeTurn_101 : decode prog_1_method_30_code 101 = .ok (.invokevirtual 130, 3) := by decide +kernel
theorem d_Y_takeTurn_104 : decode prog_1_method_30_code 104 = .ok (.aload_n 0, 1) := by decide +kernel
theorem d_Y_takeTurn_105 : decode prog_1_method_30_code 105 = .ok (.aload_n 1, 1) := by decide +kernel
theorem d_Y_takeTurn_106 : decode prog_1_method_30_code 106 = .ok (.invokevirtual 247, 3) := by decide +kernel
theorem d_Y_takeTurn_109 : decode prog_1_method_30_code 109 = .ok (.aload_n 2, 1) := by decide +kernel
theorem d_Y_takeTurn_110 : decode prog_1_method_30_code 110 = .ok (.getfield 123, 3) := by decide +kernel
theorem d_Y_takeTurn_113 : decode prog_1_method_30_code 113 = .ok (.iconst 1, 1) := by decide +kernel
theorem d_Y_takeTurn_114 : decode prog_1_method_30_code 114 = .ok (.if_icmp .ne 12, 3) := by decide +kernel
theorem d_Y_takeTurn_117 : decode prog_1_method_30_code 117 = .ok (.aload_n 0, 1) := by decide +kernel
theorem d_Y_takeTurn_118 : decode prog_1_method_30_code 118 = .ok (.aload_n 1, 1) := by decide +kernel
theorem d_Y_takeTurn_119 : decode prog_1_method_30_code 119 = .ok (.aload_n 2, 1) := by decide +kernel
theorem d_Y_takeTurn_120 : decode prog_1_method_30_code 120 = .ok (.getfield 213, 3) := by decide +kernel
theorem d_Y_takeTurn_123 : decode prog_1_method_30_code 123 = .ok (.invokevirtual 227, 3) := by decide +kernel
theorem d_Y_takeTurn_126 : decode prog_1_method_30_code 126 = .ok (.aload_n 2, 1) := by decide +kernel
theorem d_Y_takeTurn_127 : decode prog_1_method_30_code 127 = .ok (.getfield 213, 3) := by decide +kernel
theorem d_Y_takeTurn_130 : decode prog_1_method_30_code 130 = .ok (.ireturn, 1) := by decide +kernel
theorem d_Y_nextTask_0 : decode prog_1_method_31_code 0 = .ok (.aload_n 1, 1) := by decide +kernel
theorem d_Y_nextTask_1 : decode prog_1_method_31_code 1 = .ok (.getfield 162, 3) := by decide +kernel
theorem d_Y_nextTask_4 : decode prog_1_method_31_code 4 = .ok (.iconst 5, 1) := by decide +kernel
theorem d_Y_nextTask_5 : decode prog_1_method_31_code 5 = .ok (.irem, 1) := by decide +kernel
theorem d_Y_nextTask_6 : decode prog_1_method_31_code 6 = .ok (.ifCond .ne 17, 3) := by decide +kernel
theorem d_Y_nextTask_9 : decode prog_1_method_31_code 9 = .ok (.aload_n 0, 1) := by decide +kernel
theorem d_Y_nextTask_10 : decode prog_1_method_31_code 10 = .ok (.getfield 45, 3) := by decide +kernel
theorem d_Y_nextTask_13 : decode prog_1_method_31_code 13 = .ok (.invokevirtual 198, 3) := by decide +kernel
theorem d_Y_nextTask_16 : decode prog_1_method_31_code 16 = .ok (.ifCond .ne 7, 3) := by decide +kernel
theorem d_Y_nextTask_19 : decode prog_1_method_31_code 19 = .ok (.iconst 1, 1) := by decide +kernel
theorem d_Y_nextTask_20 : decode prog_1_method_31_code 20 = .ok (.goto 4, 3) := by decide +kernel
theorem d_Y_nextTask_23 : decode prog_1_method_31_code 23 = .ok (.iconst 0, 1) := by decide +kernel
theorem d_Y_nextTask_24 : decode prog_1_method_31_code 24 = .ok (.istore_n 2, 1) := by decide +kernel
theorem d_Y_nextTask_25 : decode prog_1_method_31_code 25 = .ok (.aload_n 1, 1) := by decide +kernel
theorem d_Y_nextTask_26 : decode prog_1_method_31_code 26 = .ok (.getfield 172, 3) := by decide +kernel
theorem d_Y_nextTask_29 : decode prog_1_method_31_code 29 = .ok (.iconst 2, 1) := by decide +kernel
theorem d_Y_nextTask_30 : decode prog_1_method_31_code 30 = .ok (.if_icmp .lt 23, 3) := by decide +kernel
theorem d_Y_nextTask_33 : decode prog_1_method_31_code 33 = .ok (.aload_n 1, 1) := by decide +kernel
theorem d_Y_nextTask_34 : decode prog_1_method_31_code 34 = .ok (.getfield 165, 3) := by decide +kernel
theorem d_Y_nextTask_37 : decode prog_1_method_31_code 37 = .ok (.invokevirtual 198, 3) := by decide +kernel
theorem d_Y_nextTask_40 : decode prog_1_method_31_code 40 = .ok (.ifCond .eq 17, 3) := by decide +kernel
theorem d_Y_nextTask_43 : decode prog_1_method_31_code 43 = .ok (.aload_n 0, 1) := by decide +kernel
theorem d_Y_nextTask_44 : decode prog_1_method_31_code 44 = .ok (.getfield 45, 3) := by decide +kernel
theorem d_Y_nextTask_47 : decode prog_1_method_31_code 47 = .ok (.invokevirtual 198, 3) := by decide +kernel
theorem d_Y_nextTask_50 : decode prog_1_method_31_code 50 = .ok (.ifCond .eq 7, 3) := by decide +kernel
theorem d_Y_nextTask_53 : decode prog_1_method_31_code 53 = .ok (.iconst 1, 1) := by decide +kernel
theorem d_Y_nextTask_54 : decode prog_1_method_31_code 54 = .ok (.goto 4, 3) := by decide +kernel
theorem d_Y_nextTask_57 : decode prog_1_method_31_code 57 = .ok (.iconst 0, 1) := by decide +kernel
theorem d_Y_nextTask_58 : decode prog_1_method_31_code 58 = .ok (.istore_n 3, 1) := by decide +kernel
theorem d_Y_nextTask_59 : decode prog_1_method_31_code 59 = .ok (.aload_n 1, 1) := by decide +kernel
theorem d_Y_nextTask_60 : decode prog_1_method_31_code 60 = .ok (.getfield 159, 3) := by decide +kernel
theorem d_Y_nextTask_63 : decode prog_1_method_31_code 63 = .ok (.iconst (-1), 1) := by decide +kernel
theorem d_Y_nextTask_64 : decode prog_1_method_31_code 64 = .ok (.if_icmp .eq 26, 3) := by decide +kernel
theorem d_Y_nextTask_67 : decode prog_1_method_31_code 67 = .ok (.iload_n 3, 1) := by decide +kernel
theorem d_Y_nextTask_68 : decode prog_1_method_31_code 68 = .ok (.ifCond .eq 22, 3) := by decide +kernel
theorem d_Y_nextTask_71 : decode prog_1_method_31_code 71 = .ok (.iload_n 2, 1) := by decide +kernel
theorem d_Y_nextTask_72 : decode prog_1_method_31_code 72 = .ok (.ifCond .ne 18, 3) := by decide +kernel
theorem d_Y_nextTask_75 : decode prog_1_method_31_code 75 = .ok (.aload_n 1, 1) := by decide +kernel
theorem d_Y_nextTask_76 : decode prog_1_method_31_code 76 = .ok (.dup, 1) := by decide +kernel
theorem d_Y_nextTask_77 : decode prog_1_method_31_code 77 = .ok (.getfield 172, 3) := by decide +kernel
theorem d_Y_nextTask_80 : decode prog_1_method_31_code 80 = .ok (.iconst 1, 1) := by decide +kernel
theorem d_Y_nextTask_81 : decode prog_1_method_31_code 81 = .ok (.iadd, 1) := by decide +kernel
theorem d_Y_nextTask_82 : decode prog_1_method_31_code 82 = .ok (.putfield 172, 3) := by decide +kernel
theorem d_Y_nextTask_85 : decode prog_1_method_31_code 85 = .ok (.aload_n 1, 1) := by decide +kernel
theorem d_Y_nextTask_86 : decode prog_1_method_31_code 86 = .ok (.invokevirtual 251, 3) := by decide +kernel
theorem d_Y_nextTask_89 : decode prog_1_method_31_code 89 = .ok (.ireturn, 1) := by decide +kernel
theorem d_Y_nextTask_90 : decode prog_1_method_31_code 90 = .ok (.aload_n 1, 1) := by decide +kernel
theorem d_Y_nextTask_91 : decode prog_1_method_31_code 91 = .ok (.iconst 0, 1) := by decide +kernel
theorem d_Y_nextTask_92 : decode prog_1_method_31_code 92 = .ok (.putfield 172, 3) := by decide +kernel
theorem d_Y_nextTask_95 : decode prog_1_method_31_code 95 = .ok (.iload_n 2, 1) := by decide +kernel
theorem d_Y_nextTask_96 : decode prog_1_method_31_code 96 = .ok (.ifCond .ne 21, 3) := by decide +kernel
theorem d_Y_nextTask_99 : decode prog_1_method_31_code 99 = .ok (.aload_n 1, 1) := by decide +kernel
theorem d_Y_nextTask_100 : decode prog_1_method_31_code 100 = .ok (.getfield 165, 3) := by decide +kernel
theorem d_Y_nextTask_103 : decode prog_1_method_31_code 103 = .ok (.invokevirtual 198, 3) := by decide +kernel
theorem d_Y_nextTask_106 : decode prog_1_method_31_code 106 = .ok (.ifCond .ne 11, 3) := by decide +kernel
theorem d_Y_nextTask_109 : decode prog_1_method_31_code 109 = .ok (.aload_n 1, 1) := by decide +kernel
theorem d_Y_nextTask_110 : decode prog_1_method_31_code 110 = .ok (.getfield 165, 3) := by decide +kernel
theorem d_Y_nextTask_113 : decode prog_1_method_31_code 113 = .ok (.invokevirtual 231, 3) := by decide +kernel
theorem d_Y_nextTask_116 : decode prog_1_method_31_code 116 = .ok (.ireturn, 1) := by decide +kernel
theorem d_Y_nextTask_117 : decode prog_1_method_31_code 117 = .ok (.aload_n 0, 1) := by decide +kernel
theorem d_Y_nextTask_118 : decode prog_1_method_31_code 118 = .ok (.getfield 45, 3) := by decide +kernel
theorem d_Y_nextTask_121 : decode prog_1_method_31_code 121 = .ok (.invokevirtual 198, 3) := by decide +kernel
