theorem dX7_init_0 : decode cX7_init 0 = .ok (.aload_n 0, 1) := by decide +kernel
theorem dX7_init_1 : decode cX7_init 1 = .ok (.invokespecial 1, 3) := by decide +kernel
theorem dX7_init_4 : decode cX7_init 4 = .ok (.aload_n 0, 1) := by decide +kernel
theorem dX7_init_5 : decode cX7_init 5 = .ok (.new 7, 3) := by decide +kernel
theorem dX7_init_8 : decode cX7_init 8 = .ok (.dup, 1) := by decide +kernel
theorem dX7_init_9 : decode cX7_init 9 = .ok (.invokespecial 9, 3) := by decide +kernel
theorem dX7_init_12 : decode cX7_init 12 = .ok (.putfield 10, 3) := by decide +kernel
theorem dX7_init_15 : decode cX7_init 15 = .ok (.aload_n 0, 1) := by decide +kernel
theorem dX7_init_16 : decode cX7_init 16 = .ok (.new 16, 3) := by decide +kernel
theorem dX7_init_19 : decode cX7_init 19 = .ok (.dup, 1) := by decide +kernel
theorem dX7_init_20 : decode cX7_init 20 = .ok (.invokespecial 18, 3) := by decide +kernel
theorem dX7_init_23 : decode cX7_init 23 = .ok (.putfield 19, 3) := by decide +kernel
theorem dX7_init_26 : decode cX7_init 26 = .ok (.aload_n 0, 1) := by decide +kernel
theorem dX7_init_27 : decode cX7_init 27 = .ok (.new 23, 3) := by decide +kernel
theorem dX7_init_30 : decode cX7_init 30 = .ok (.dup, 1) := by decide +kernel
theorem dX7_init_31 : decode cX7_init 31 = .ok (.invokespecial 25, 3) := by decide +kernel
theorem dX7_init_34 : decode cX7_init 34 = .ok (.putfield 26, 3) := by decide +kernel
theorem dX7_init_37 : decode cX7_init 37 = .ok (.aload_n 0, 1) := by decide +kernel
theorem dX7_init_38 : decode cX7_init 38 = .ok (.new 23, 3) := by decide +kernel
theorem dX7_init_41 : decode cX7_init 41 = .ok (.dup, 1) := by decide +kernel
theorem dX7_init_42 : decode cX7_init 42 = .ok (.invokespecial 25, 3) := by decide +kernel
theorem dX7_init_45 : decode cX7_init 45 = .ok (.putfield 30, 3) := by decide +kernel
theorem dX7_init_48 : decode cX7_init 48 = .ok (.aload_n 0, 1) := by decide +kernel
theorem dX7_init_49 : decode cX7_init 49 = .ok (.new 23, 3) := by decide +kernel
theorem dX7_init_52 : decode cX7_init 52 = .ok (.dup, 1) := by decide +kernel
theorem dX7_init_53 : decode cX7_init 53 = .ok (.invokespecial 25, 3) := by decide +kernel
theorem dX7_init_56 : decode cX7_init 56 = .ok (.putfield 33, 3) := by decide +kernel
theorem dX7_init_59 : decode cX7_init 59 = .ok (.aload_n 0, 1) := by decide +kernel
theorem dX7_init_60 : decode cX7_init 60 = .ok (.bipush 8, 2) := by decide +kernel
theorem dX7_init_62 : decode cX7_init 62 = .ok (.anewarray 36, 3) := by decide +kernel
theorem dX7_init_65 : decode cX7_init 65 = .ok (.putfield 38, 3) := by decide +kernel
theorem dX7_init_68 : decode cX7_init 68 = .ok (.aload_n 0, 1) := by decide +kernel
theorem dX7_init_69 : decode cX7_init 69 = .ok (.bipush 8, 2) := by decide +kernel
theorem dX7_init_71 : decode cX7_init 71 = .ok (.anewarray 42, 3) := by decide +kernel
theorem dX7_init_74 : decode cX7_init 74 = .ok (.putfield 44, 3) := by decide +kernel
theorem dX7_init_77 : decode cX7_init 77 = .ok (.aload_n 0, 1) := by decide +kernel
theorem dX7_init_78 : decode cX7_init 78 = .ok (.bipush 8, 2) := by decide +kernel
theorem dX7_init_80 : decode cX7_init 80 = .ok (.newarray .int, 2) := by decide +kernel
theorem dX7_init_82 : decode cX7_init 82 = .ok (.putfield 48, 3) := by decide +kernel
theorem dX7_init_85 : decode cX7_init 85 = .ok (.aload_n 0, 1) := by decide +kernel
theorem dX7_init_86 : decode cX7_init 86 = .ok (.bipush 8, 2) := by decide +kernel
theorem dX7_init_88 : decode cX7_init 88 = .ok (.newarray .int, 2) := by decide +kernel
theorem dX7_init_90 : decode cX7_init 90 = .ok (.putfield 52, 3) := by decide +kernel
theorem dX7_init_93 : decode cX7_init 93 = .ok (.aload_n 0, 1) := by decide +kernel
theorem dX7_init_94 : decode cX7_init 94 = .ok (.bipush 22, 2) := by decide +kernel
theorem dX7_init_96 : decode cX7_init 96 = .ok (.newarray .int, 2) := by decide +kernel
theorem dX7_init_98 : decode cX7_init 98 = .ok (.putfield 55, 3) := by decide +kernel
theorem dX7_init_101 : decode cX7_init 101 = .ok (.aload_n 0, 1) := by decide +kernel
theorem dX7_init_102 : decode cX7_init 102 = .ok (.bipush 11, 2) := by decide +kernel
theorem dX7_init_104 : decode cX7_init 104 = .ok (.newarray .int, 2) := by decide +kernel
theorem dX7_init_106 : decode cX7_init 106 = .ok (.putfield 58, 3) := by decide +kernel
theorem dX7_init_109 : decode cX7_init 109 = .ok (.aload_n 0, 1) := by decide +kernel
theorem dX7_init_110 : decode cX7_init 110 = .ok (.lconst 0, 1) := by decide +kernel
theorem dX7_init_111 : decode cX7_init 111 = .ok (.putfield 61, 3) := by decide +kernel
theorem dX7_init_114 : decode cX7_init 114 = .ok (.aload_n 0, 1) := by decide +kernel
theorem dX7_init_115 : decode cX7_init 115 = .ok (.ldc2_w 65, 3) := by decide +kernel
theorem dX7_init_118 : decode cX7_init 118 = .ok (.putfield 67, 3) := by decide +kernel
theorem dX7_init_121 : decode cX7_init 121 = .ok (.aload_n 0, 1) := by decide +kernel
theorem dX7_init_122 : decode cX7_init 122 = .ok (.ldc2_w 65, 3) := by decide +kernel
theorem dX7_init_125 : decode cX7_init 125 = .ok (.putfield 70, 3) := by decide +kernel
theorem dX7_init_128 : decode cX7_init 128 = .ok (.aload_n 0, 1) := by decide +kernel
theorem dX7_init_129 : decode cX7_init 129 = .ok (.ldc2_w 65, 3) := by decide +kernel
theorem dX7_init_132 : decode cX7_init 132 = .ok (.putfield 73, 3) := by decide +kernel
theorem dX7_init_135 : decode cX7_init 135 = .ok (.aload_n 0, 1) := by decide +kernel
theorem dX7_init_136 : decode cX7_init 136 = .ok (.iconst 0, 1) := by decide +kernel
theorem dX7_init_137 : decode cX7_init 137 = .ok (.putfield 76, 3) := by decide +kernel
theorem dX7_init_140 : decode cX7_init 140 = .ok (.aload_n 0, 1) := by decide +kernel
theorem dX7_init_141 : decode cX7_init 141 = .ok (.iconst 0, 1) := by decide +kernel
theorem dX7_init_142 : decode cX7_init 142 = .ok (.putfield 80, 3) := by decide +kernel
theorem dX7_init_145 : decode cX7_init 145 = .ok (.aload_n 0, 1) := by decide +kernel
theorem dX7_init_146 : decode cX7_init 146 = .ok (.iconst 0, 1) := by decide +kernel
theorem dX7_init_147 : decode cX7_init 147 = .ok (.putfield 83, 3) := by decide +kernel
theorem dX7_init_150 : decode cX7_init 150 = .ok (.aload_n 0, 1) := by decide +kernel
theorem dX7_init_151 : decode cX7_init 151 = .ok (.iconst 0, 1) := by decide +kernel
theorem dX7_init_152 : decode cX7_init 152 = .ok (.putfield 86, 3) := by decide +kernel
theorem dX7_init_155 : decode cX7_init 155 = .ok (.iconst 0, 1) := by decide +kernel
theorem dX7_init_156 : decode cX7_init 156 = .ok (.istore_n 1, 1) := by decide +kernel
theorem dX7_init_157 : decode cX7_init 157 = .ok (.iload_n 1, 1) := by decide +kernel
theorem dX7_init_158 : decode cX7_init 158 = .ok (.bipush 8, 2) := by decide +kernel
theorem dX7_init_160 : decode cX7_init 160 = .ok (.if_icmp .ge 22, 3) := by decide +kernel
theorem dX7_init_163 : decode cX7_init 163 = .ok (.aload_n 0, 1) := by decide +kernel
theorem dX7_init_164 : decode cX7_init 164 = .ok (.getfield 38, 3) := by decide +kernel
theorem dX7_init_167 : decode cX7_init 167 = .ok (.iload_n 1, 1) := by decide +kernel
theorem dX7_init_168 : decode cX7_init 168 = .ok (.new 36, 3) := by decide +kernel
theorem dX7_init_171 : decode cX7_init 171 = .ok (.dup, 1) := by decide +kernel
theorem dX7_init_172 : decode cX7_init 172 = .ok (.invokespecial 89, 3) := by decide +kernel
theorem dX7_init_175 : decode cX7_init 175 = .ok (.aastore, 1) := by decide +kernel
theorem dX7_init_176 : decode cX7_init 176 = .ok (.iinc 1 1, 3) := by decide +kernel
theorem dX7_init_179 : decode cX7_init 179 = .ok (.goto (-22), 3) := by decide +kernel
theorem dX7_init_182 : decode cX7_init 182 = .ok (.iconst 0, 1) := by decide +kernel
theorem dX7_init_183 : decode cX7_init 183 = .ok (.istore_n 1, 1) := by decide +kernel
theorem dX7_init_184 : decode cX7_init 184 = .ok (.iload_n 1, 1) := by decide +kernel
theorem dX7_init_185 : decode cX7_init 185 = .ok (.bipush 8, 2) := by decide +kernel
theorem dX7_init_187 : decode cX7_init 187 = .ok (.if_icmp .ge 22, 3) := by decide +kernel
theorem dX7_init_190 : decode cX7_init 190 = .ok (.aload_n 0, 1) := by decide +kernel
theorem dX7_init_191 : decode cX7_init 191 = .ok (.getfield 44, 3) := by decide +kernel
theorem dX7_init_194 : decode cX7_init 194 = .ok (.iload_n 1, 1) := by decide +kernel
theorem dX7_init_195 : decode cX7_init 195 = .ok (.new 42, 3) := by decide +kernel
theorem dX7_init_198 : decode cX7_init 198 = .ok (.dup, 1) := by decide +kernel
theorem dX7_init_199 : decode cX7_init 199 = .ok (.invokespecial 90, 3) := by decide +kernel
theorem dX7_init_202 : decode cX7_init 202 = .ok (.aastore, 1) := by decide +kernel
theorem dX7_init_203 : decode cX7_init 203 = .ok (.iinc 1 1, 3) := by decide +kernel
theorem dX7_init_206 : decode cX7_init 206 = .ok (.goto (-22), 3) := by decide +kernel
theorem dX7_init_209 : decode cX7_init 209 = .ok (.return_, 1) := by decide +kernel
theorem dX7_seed_0 : decode cX7_seed 0 = .ok (.lload_n 1, 1) := by decide +kernel
theorem dX7_seed_1 : decode cX7_seed 1 = .ok (.aload_n 0, 1) := by decide +kernel
theorem dX7_seed_2 : decode cX7_seed 2 = .ok (.getfield 48, 3) := by decide +kernel
theorem dX7_seed_5 : decode cX7_seed 5 = .ok (.iconst 0, 1) := by decide +kernel
theorem dX7_seed_6 : decode cX7_seed 6 = .ok (.invokestatic 91, 3) := by decide +kernel
theorem dX7_seed_9 : decode cX7_seed 9 = .ok (.aload_n 0, 1) := by decide +kernel
theorem dX7_seed_10 : decode cX7_seed 10 = .ok (.iconst 0, 1) := by decide +kernel
theorem dX7_seed_11 : decode cX7_seed 11 = .ok (.putfield 76, 3) := by decide +kernel
theorem dX7_seed_14 : decode cX7_seed 14 = .ok (.return_, 1) := by decide +kernel
theorem dX7_pass_0 : decode cX7_pass 0 = .ok (.lload_n 1, 1) := by decide +kernel
theorem dX7_pass_1 : decode cX7_pass 1 = .ok (.lconst 1, 1) := by decide +kernel
theorem dX7_pass_2 : decode cX7_pass 2 = .ok (.lcmp, 1) := by decide +kernel
theorem dX7_pass_3 : decode cX7_pass 3 = .ok (.ifCond .lt 11, 3) := by decide +kernel
theorem dX7_pass_6 : decode cX7_pass 6 = .ok (.lload_n 1, 1) := by decide +kernel
theorem dX7_pass_7 : decode cX7_pass 7 = .ok (.ldc2_w 95, 3) := by decide +kernel
theorem dX7_pass_10 : decode cX7_pass 10 = .ok (.lcmp, 1) := by decide +kernel
theorem dX7_pass_11 : decode cX7_pass 11 = .ok (.ifCond .le 11, 3) := by decide +kernel
theorem dX7_pass_14 : decode cX7_pass 14 = .ok (.new 97, 3) := by decide +kernel
theorem dX7_pass_17 : decode cX7_pass 17 = .ok (.dup, 1) := by decide +kernel
theorem dX7_pass_18 : decode cX7_pass 18 = .ok (.invokespecial 99, 3) := by decide +kernel
theorem dX7_pass_21 : decode cX7_pass 21 = .ok (.athrow, 1) := by decide +kernel
theorem dX7_pass_22 : decode cX7_pass 22 = .ok (.aload_n 0, 1) := by decide +kernel
theorem dX7_pass_23 : decode cX7_pass 23 = .ok (.dup, 1) := by decide +kernel
theorem dX7_pass_24 : decode cX7_pass 24 = .ok (.getfield 61, 3) := by decide +kernel
theorem dX7_pass_27 : decode cX7_pass 27 = .ok (.lload_n 1, 1) := by decide +kernel
theorem dX7_pass_28 : decode cX7_pass 28 = .ok (.ladd, 1) := by decide +kernel
theorem dX7_pass_29 : decode cX7_pass 29 = .ok (.putfield 61, 3) := by decide +kernel
theorem dX7_pass_32 : decode cX7_pass 32 = .ok (.aload_n 0, 1) := by decide +kernel
theorem dX7_pass_33 : decode cX7_pass 33 = .ok (.getfield 61, 3) := by decide +kernel
theorem dX7_pass_36 : decode cX7_pass 36 = .ok (.lreturn, 1) := by decide +kernel
theorem dX7_limits_0 : decode cX7_limits 0 = .ok (.lload_n 1, 1) := by decide +kernel
theorem dX7_limits_1 : decode cX7_limits 1 = .ok (.invokestatic 100, 3) := by decide +kernel
theorem dX7_limits_4 : decode cX7_limits 4 = .ok (.ifCond .eq 18, 3) := by decide +kernel
theorem dX7_limits_7 : decode cX7_limits 7 = .ok (.lload_n 3, 1) := by decide +kernel
theorem dX7_limits_8 : decode cX7_limits 8 = .ok (.invokestatic 100, 3) := by decide +kernel
theorem dX7_limits_11 : decode cX7_limits 11 = .ok (.ifCond .eq 11, 3) := by decide +kernel
theorem dX7_limits_14 : decode cX7_limits 14 = .ok (.lload 5, 2) := by decide +kernel
theorem dX7_limits_16 : decode cX7_limits 16 = .ok (.invokestatic 100, 3) := by decide +kernel
theorem dX7_limits_19 : decode cX7_limits 19 = .ok (.ifCond .ne 11, 3) := by decide +kernel
theorem dX7_limits_22 : decode cX7_limits 22 = .ok (.new 97, 3) := by decide +kernel
theorem dX7_limits_25 : decode cX7_limits 25 = .ok (.dup, 1) := by decide +kernel
theorem dX7_limits_26 : decode cX7_limits 26 = .ok (.invokespecial 99, 3) := by decide +kernel
theorem dX7_limits_29 : decode cX7_limits 29 = .ok (.athrow, 1) := by decide +kernel
theorem dX7_limits_30 : decode cX7_limits 30 = .ok (.aload_n 0, 1) := by decide +kernel
theorem dX7_limits_31 : decode cX7_limits 31 = .ok (.lload_n 1, 1) := by decide +kernel
theorem dX7_limits_32 : decode cX7_limits 32 = .ok (.putfield 67, 3) := by decide +kernel
theorem dX7_limits_35 : decode cX7_limits 35 = .ok (.aload_n 0, 1) := by decide +kernel
theorem dX7_limits_36 : decode cX7_limits 36 = .ok (.lload_n 3, 1) := by decide +kernel
theorem dX7_limits_37 : decode cX7_limits 37 = .ok (.putfield 70, 3) := by decide +kernel
theorem dX7_limits_40 : decode cX7_limits 40 = .ok (.aload_n 0, 1) := by decide +kernel
theorem dX7_limits_41 : decode cX7_limits 41 = .ok (.lload 5, 2) := by decide +kernel
theorem dX7_limits_43 : decode cX7_limits 43 = .ok (.putfield 73, 3) := by decide +kernel
theorem dX7_limits_46 : decode cX7_limits 46 = .ok (.return_, 1) := by decide +kernel
theorem dX7_change_0 : decode cX7_change 0 = .ok (.aload_n 0, 1) := by decide +kernel
theorem dX7_change_1 : decode cX7_change 1 = .ok (.getfield 19, 3) := by decide +kernel
theorem dX7_change_4 : decode cX7_change 4 = .ok (.aload_n 0, 1) := by decide +kernel
theorem dX7_change_5 : decode cX7_change 5 = .ok (.getfield 61, 3) := by decide +kernel
theorem dX7_change_8 : decode cX7_change 8 = .ok (.invokevirtual 104, 3) := by decide +kernel
theorem dX7_change_11 : decode cX7_change 11 = .ok (.aload_n 0, 1) := by decide +kernel
theorem dX7_change_12 : decode cX7_change 12 = .ok (.getfield 19, 3) := by decide +kernel
theorem dX7_change_15 : decode cX7_change 15 = .ok (.invokevirtual 108, 3) := by decide +kernel
theorem dX7_change_18 : decode cX7_change 18 = .ok (.astore 5, 2) := by decide +kernel
theorem dX7_change_20 : decode cX7_change 20 = .ok (.aload 5, 2) := by decide +kernel
theorem dX7_change_22 : decode cX7_change 22 = .ok (.iload_n 1, 1) := by decide +kernel
theorem dX7_change_23 : decode cX7_change 23 = .ok (.iload_n 2, 1) := by decide +kernel
theorem dX7_change_24 : decode cX7_change 24 = .ok (.iload_n 3, 1) := by decide +kernel
theorem dX7_change_25 : decode cX7_change 25 = .ok (.iload 4, 2) := by decide +kernel
theorem dX7_change_27 : decode cX7_change 27 = .ok (.invokevirtual 112, 3) := by decide +kernel
theorem dX7_change_30 : decode cX7_change 30 = .ok (.aload 5, 2) := by decide +kernel
theorem dX7_change_32 : decode cX7_change 32 = .ok (.getfield 118, 3) := by decide +kernel
theorem dX7_change_35 : decode cX7_change 35 = .ok (.ireturn, 1) := by decide +kernel
theorem dX7_user_0 : decode cX7_user 0 = .ok (.iload_n 1, 1) := by decide +kernel
theorem dX7_user_1 : decode cX7_user 1 = .ok (.invokestatic 121, 3) := by decide +kernel
theorem dX7_user_4 : decode cX7_user 4 = .ok (.ifCond .ne 11, 3) := by decide +kernel
theorem dX7_user_7 : decode cX7_user 7 = .ok (.new 97, 3) := by decide +kernel
theorem dX7_user_10 : decode cX7_user 10 = .ok (.dup, 1) := by decide +kernel
theorem dX7_user_11 : decode cX7_user 11 = .ok (.invokespecial 99, 3) := by decide +kernel
theorem dX7_user_14 : decode cX7_user 14 = .ok (.athrow, 1) := by decide +kernel
theorem dX7_user_15 : decode cX7_user 15 = .ok (.aload_n 0, 1) := by decide +kernel
theorem dX7_user_16 : decode cX7_user 16 = .ok (.getfield 38, 3) := by decide +kernel
theorem dX7_user_19 : decode cX7_user 19 = .ok (.iload_n 1, 1) := by decide +kernel
theorem dX7_user_20 : decode cX7_user 20 = .ok (.aaload, 1) := by decide +kernel
theorem dX7_user_21 : decode cX7_user 21 = .ok (.iload_n 2, 1) := by decide +kernel
theorem dX7_user_22 : decode cX7_user 22 = .ok (.iload_n 3, 1) := by decide +kernel
theorem dX7_user_23 : decode cX7_user 23 = .ok (.invokevirtual 125, 3) := by decide +kernel
theorem dX7_user_26 : decode cX7_user 26 = .ok (.return_, 1) := by decide +kernel
theorem dX7_login_0 : decode cX7_login 0 = .ok (.iload_n 1, 1) := by decide +kernel
theorem dX7_login_1 : decode cX7_login 1 = .ok (.invokestatic 121, 3) := by decide +kernel
theorem dX7_login_4 : decode cX7_login 4 = .ok (.ifCond .ne 11, 3) := by decide +kernel
theorem dX7_login_7 : decode cX7_login 7 = .ok (.new 97, 3) := by decide +kernel
theorem dX7_login_10 : decode cX7_login 10 = .ok (.dup, 1) := by decide +kernel
theorem dX7_login_11 : decode cX7_login 11 = .ok (.invokespecial 99, 3) := by decide +kernel
theorem dX7_login_14 : decode cX7_login 14 = .ok (.athrow, 1) := by decide +kernel
theorem dX7_login_15 : decode cX7_login 15 = .ok (.aload_n 0, 1) := by decide +kernel
theorem dX7_login_16 : decode cX7_login 16 = .ok (.getfield 38, 3) := by decide +kernel
theorem dX7_login_19 : decode cX7_login 19 = .ok (.iload_n 1, 1) := by decide +kernel
theorem dX7_login_20 : decode cX7_login 20 = .ok (.aaload, 1) := by decide +kernel
theorem dX7_login_21 : decode cX7_login 21 = .ok (.iload_n 2, 1) := by decide +kernel
theorem dX7_login_22 : decode cX7_login 22 = .ok (.iload_n 3, 1) := by decide +kernel
theorem dX7_login_23 : decode cX7_login 23 = .ok (.invokevirtual 129, 3) := by decide +kernel
theorem dX7_login_26 : decode cX7_login 26 = .ok (.ifCond .ne 6, 3) := by decide +kernel
theorem dX7_login_29 : decode cX7_login 29 = .ok (.bipush (-9), 2) := by decide +kernel
theorem dX7_login_31 : decode cX7_login 31 = .ok (.ireturn, 1) := by decide +kernel
theorem dX7_login_32 : decode cX7_login 32 = .ok (.aload_n 0, 1) := by decide +kernel
theorem dX7_login_33 : decode cX7_login 33 = .ok (.invokevirtual 133, 3) := by decide +kernel
theorem dX7_login_36 : decode cX7_login 36 = .ok (.aload_n 0, 1) := by decide +kernel
theorem dX7_login_37 : decode cX7_login 37 = .ok (.invokevirtual 136, 3) := by decide +kernel
theorem dX7_login_40 : decode cX7_login 40 = .ok (.istore 4, 2) := by decide +kernel
theorem dX7_login_42 : decode cX7_login 42 = .ok (.iload 4, 2) := by decide +kernel
theorem dX7_login_44 : decode cX7_login 44 = .ok (.iconst (-1), 1) := by decide +kernel
theorem dX7_login_45 : decode cX7_login 45 = .ok (.if_icmp .ne 6, 3) := by decide +kernel
theorem dX7_login_48 : decode cX7_login 48 = .ok (.bipush (-10), 2) := by decide +kernel
theorem dX7_login_50 : decode cX7_login 50 = .ok (.ireturn, 1) := by decide +kernel
theorem dX7_login_51 : decode cX7_login 51 = .ok (.aload_n 0, 1) := by decide +kernel
theorem dX7_login_52 : decode cX7_login 52 = .ok (.getfield 44, 3) := by decide +kernel
theorem dX7_login_55 : decode cX7_login 55 = .ok (.iload 4, 2) := by decide +kernel
theorem dX7_login_57 : decode cX7_login 57 = .ok (.aaload, 1) := by decide +kernel
theorem dX7_login_58 : decode cX7_login 58 = .ok (.iload_n 1, 1) := by decide +kernel
theorem dX7_login_59 : decode cX7_login 59 = .ok (.aload_n 0, 1) := by decide +kernel
theorem dX7_login_60 : decode cX7_login 60 = .ok (.invokevirtual 140, 3) := by decide +kernel
theorem dX7_login_63 : decode cX7_login 63 = .ok (.aload_n 0, 1) := by decide +kernel
theorem dX7_login_64 : decode cX7_login 64 = .ok (.getfield 61, 3) := by decide +kernel
theorem dX7_login_67 : decode cX7_login 67 = .ok (.invokevirtual 144, 3) := by decide +kernel
theorem dX7_login_70 : decode cX7_login 70 = .ok (.aload_n 0, 1) := by decide +kernel
theorem dX7_login_71 : decode cX7_login 71 = .ok (.dup, 1) := by decide +kernel
theorem dX7_login_72 : decode cX7_login 72 = .ok (.getfield 76, 3) := by decide +kernel
theorem dX7_login_75 : decode cX7_login 75 = .ok (.iconst 1, 1) := by decide +kernel
theorem dX7_login_76 : decode cX7_login 76 = .ok (.iadd, 1) := by decide +kernel
theorem dX7_login_77 : decode cX7_login 77 = .ok (.putfield 76, 3) := by decide +kernel
theorem dX7_login_80 : decode cX7_login 80 = .ok (.aload_n 0, 1) := by decide +kernel
theorem dX7_login_81 : decode cX7_login 81 = .ok (.aload_n 0, 1) := by decide +kernel
theorem dX7_login_82 : decode cX7_login 82 = .ok (.getfield 44, 3) := by decide +kernel
theorem dX7_login_85 : decode cX7_login 85 = .ok (.iload 4, 2) := by decide +kernel
theorem dX7_login_87 : decode cX7_login 87 = .ok (.aaload, 1) := by decide +kernel
theorem dX7_login_88 : decode cX7_login 88 = .ok (.invokevirtual 148, 3) := by decide +kernel
theorem dX7_login_91 : decode cX7_login 91 = .ok (.iload 4, 2) := by decide +kernel
theorem dX7_login_93 : decode cX7_login 93 = .ok (.ireturn, 1) := by decide +kernel
theorem dX7_request_0 : decode cX7_request 0 = .ok (.aload_n 0, 1) := by decide +kernel
theorem dX7_request_1 : decode cX7_request 1 = .ok (.iload_n 1, 1) := by decide +kernel
theorem dX7_request_2 : decode cX7_request 2 = .ok (.invokevirtual 152, 3) := by decide +kernel
theorem dX7_request_5 : decode cX7_request 5 = .ok (.istore_n 2, 1) := by decide +kernel
theorem dX7_request_6 : decode cX7_request 6 = .ok (.aload_n 0, 1) := by decide +kernel
theorem dX7_request_7 : decode cX7_request 7 = .ok (.iload_n 2, 1) := by decide +kernel
theorem dX7_request_8 : decode cX7_request 8 = .ok (.invokevirtual 156, 3) := by decide +kernel
theorem dX7_request_11 : decode cX7_request 11 = .ok (.iload_n 2, 1) := by decide +kernel
theorem dX7_request_12 : decode cX7_request 12 = .ok (.ifCond .lt 55, 3) := by decide +kernel
theorem dX7_request_15 : decode cX7_request 15 = .ok (.aload_n 0, 1) := by decide +kernel
theorem dX7_request_16 : decode cX7_request 16 = .ok (.getfield 44, 3) := by decide +kernel
theorem dX7_request_19 : decode cX7_request 19 = .ok (.iload_n 2, 1) := by decide +kernel
theorem dX7_request_20 : decode cX7_request 20 = .ok (.aaload, 1) := by decide +kernel
theorem dX7_request_21 : decode cX7_request 21 = .ok (.aload_n 0, 1) := by decide +kernel
theorem dX7_request_22 : decode cX7_request 22 = .ok (.getfield 61, 3) := by decide +kernel
theorem dX7_request_25 : decode cX7_request 25 = .ok (.putfield 160, 3) := by decide +kernel
theorem dX7_request_28 : decode cX7_request 28 = .ok (.aload_n 0, 1) := by decide +kernel
theorem dX7_request_29 : decode cX7_request 29 = .ok (.getfield 55, 3) := by decide +kernel
theorem dX7_request_32 : decode cX7_request 32 = .ok (.iconst 0, 1) := by decide +kernel
theorem dX7_request_33 : decode cX7_request 33 = .ok (.iaload, 1) := by decide +kernel
theorem dX7_request_34 : decode cX7_request 34 = .ok (.aload_n 0, 1) := by decide +kernel
theorem dX7_request_35 : decode cX7_request 35 = .ok (.getfield 19, 3) := by decide +kernel
theorem dX7_request_38 : decode cX7_request 38 = .ok (.invokevirtual 108, 3) := by decide +kernel
theorem dX7_request_41 : decode cX7_request 41 = .ok (.getfield 118, 3) := by decide +kernel
theorem dX7_request_44 : decode cX7_request 44 = .ok (.if_icmp .eq 23, 3) := by decide +kernel
theorem dX7_request_47 : decode cX7_request 47 = .ok (.aload_n 0, 1) := by decide +kernel
theorem dX7_request_48 : decode cX7_request 48 = .ok (.aload_n 0, 1) := by decide +kernel
theorem dX7_request_49 : decode cX7_request 49 = .ok (.getfield 44, 3) := by decide +kernel
theorem dX7_request_52 : decode cX7_request 52 = .ok (.iload_n 2, 1) := by decide +kernel
theorem dX7_request_53 : decode cX7_request 53 = .ok (.aaload, 1) := by decide +kernel
theorem dX7_request_54 : decode cX7_request 54 = .ok (.invokevirtual 148, 3) := by decide +kernel
theorem dX7_request_57 : decode cX7_request 57 = .ok (.aload_n 0, 1) := by decide +kernel
theorem dX7_request_58 : decode cX7_request 58 = .ok (.dup, 1) := by decide +kernel
theorem dX7_request_59 : decode cX7_request 59 = .ok (.getfield 86, 3) := by decide +kernel
theorem dX7_request_62 : decode cX7_request 62 = .ok (.iconst 1, 1) := by decide +kernel
theorem dX7_request_63 : decode cX7_request 63 = .ok (.iadd, 1) := by decide +kernel
theorem dX7_request_64 : decode cX7_request 64 = .ok (.putfield 86, 3) := by decide +kernel
theorem dX7_request_67 : decode cX7_request 67 = .ok (.iload_n 2, 1) := by decide +kernel
theorem dX7_request_68 : decode cX7_request 68 = .ok (.ireturn, 1) := by decide +kernel
theorem dX7_logout_0 : decode cX7_logout 0 = .ok (.aload_n 0, 1) := by decide +kernel
theorem dX7_logout_1 : decode cX7_logout 1 = .ok (.iconst 1, 1) := by decide +kernel
theorem dX7_logout_2 : decode cX7_logout 2 = .ok (.invokevirtual 152, 3) := by decide +kernel
theorem dX7_logout_5 : decode cX7_logout 5 = .ok (.istore_n 1, 1) := by decide +kernel
theorem dX7_logout_6 : decode cX7_logout 6 = .ok (.aload_n 0, 1) := by decide +kernel
theorem dX7_logout_7 : decode cX7_logout 7 = .ok (.iload_n 1, 1) := by decide +kernel
theorem dX7_logout_8 : decode cX7_logout 8 = .ok (.invokevirtual 156, 3) := by decide +kernel
theorem dX7_logout_11 : decode cX7_logout 11 = .ok (.iload_n 1, 1) := by decide +kernel
theorem dX7_logout_12 : decode cX7_logout 12 = .ok (.ifCond .lt 13, 3) := by decide +kernel
theorem dX7_logout_15 : decode cX7_logout 15 = .ok (.aload_n 0, 1) := by decide +kernel
theorem dX7_logout_16 : decode cX7_logout 16 = .ok (.getfield 44, 3) := by decide +kernel
theorem dX7_logout_19 : decode cX7_logout 19 = .ok (.iload_n 1, 1) := by decide +kernel
theorem dX7_logout_20 : decode cX7_logout 20 = .ok (.aaload, 1) := by decide +kernel
theorem dX7_logout_21 : decode cX7_logout 21 = .ok (.iconst 0, 1) := by decide +kernel
theorem dX7_logout_22 : decode cX7_logout 22 = .ok (.putfield 163, 3) := by decide +kernel
theorem dX7_logout_25 : decode cX7_logout 25 = .ok (.iload_n 1, 1) := by decide +kernel
theorem dX7_logout_26 : decode cX7_logout 26 = .ok (.ireturn, 1) := by decide +kernel
theorem dX7_revoke_0 : decode cX7_revoke 0 = .ok (.iload_n 1, 1) := by decide +kernel
theorem dX7_revoke_1 : decode cX7_revoke 1 = .ok (.invokestatic 121, 3) := by decide +kernel
theorem dX7_revoke_4 : decode cX7_revoke 4 = .ok (.ifCond .ne 11, 3) := by decide +kernel
theorem dX7_revoke_7 : decode cX7_revoke 7 = .ok (.new 97, 3) := by decide +kernel
theorem dX7_revoke_10 : decode cX7_revoke 10 = .ok (.dup, 1) := by decide +kernel
theorem dX7_revoke_11 : decode cX7_revoke 11 = .ok (.invokespecial 99, 3) := by decide +kernel
theorem dX7_revoke_14 : decode cX7_revoke 14 = .ok (.athrow, 1) := by decide +kernel
theorem dX7_revoke_15 : decode cX7_revoke 15 = .ok (.iconst 0, 1) := by decide +kernel
theorem dX7_revoke_16 : decode cX7_revoke 16 = .ok (.istore_n 2, 1) := by decide +kernel
theorem dX7_revoke_17 : decode cX7_revoke 17 = .ok (.iconst 0, 1) := by decide +kernel
theorem dX7_revoke_18 : decode cX7_revoke 18 = .ok (.istore_n 3, 1) := by decide +kernel
theorem dX7_revoke_19 : decode cX7_revoke 19 = .ok (.iload_n 3, 1) := by decide +kernel
theorem dX7_revoke_20 : decode cX7_revoke 20 = .ok (.bipush 8, 2) := by decide +kernel
theorem dX7_revoke_22 : decode cX7_revoke 22 = .ok (.if_icmp .ge 47, 3) := by decide +kernel
theorem dX7_revoke_25 : decode cX7_revoke 25 = .ok (.aload_n 0, 1) := by decide +kernel
theorem dX7_revoke_26 : decode cX7_revoke 26 = .ok (.getfield 44, 3) := by decide +kernel
theorem dX7_revoke_29 : decode cX7_revoke 29 = .ok (.iload_n 3, 1) := by decide +kernel
theorem dX7_revoke_30 : decode cX7_revoke 30 = .ok (.aaload, 1) := by decide +kernel
theorem dX7_revoke_31 : decode cX7_revoke 31 = .ok (.getfield 163, 3) := by decide +kernel
theorem dX7_revoke_34 : decode cX7_revoke 34 = .ok (.ifCond .eq 29, 3) := by decide +kernel
theorem dX7_revoke_37 : decode cX7_revoke 37 = .ok (.aload_n 0, 1) := by decide +kernel
theorem dX7_revoke_38 : decode cX7_revoke 38 = .ok (.getfield 44, 3) := by decide +kernel
theorem dX7_revoke_41 : decode cX7_revoke 41 = .ok (.iload_n 3, 1) := by decide +kernel
theorem dX7_revoke_42 : decode cX7_revoke 42 = .ok (.aaload, 1) := by decide +kernel
theorem dX7_revoke_43 : decode cX7_revoke 43 = .ok (.getfield 167, 3) := by decide +kernel
theorem dX7_revoke_46 : decode cX7_revoke 46 = .ok (.iload_n 1, 1) := by decide +kernel
theorem dX7_revoke_47 : decode cX7_revoke 47 = .ok (.if_icmp .ne 16, 3) := by decide +kernel
theorem dX7_revoke_50 : decode cX7_revoke 50 = .ok (.aload_n 0, 1) := by decide +kernel
theorem dX7_revoke_51 : decode cX7_revoke 51 = .ok (.getfield 44, 3) := by decide +kernel
theorem dX7_revoke_54 : decode cX7_revoke 54 = .ok (.iload_n 3, 1) := by decide +kernel
theorem dX7_revoke_55 : decode cX7_revoke 55 = .ok (.aaload, 1) := by decide +kernel
theorem dX7_revoke_56 : decode cX7_revoke 56 = .ok (.iconst 0, 1) := by decide +kernel
theorem dX7_revoke_57 : decode cX7_revoke 57 = .ok (.putfield 163, 3) := by decide +kernel
theorem dX7_revoke_60 : decode cX7_revoke 60 = .ok (.iinc 2 1, 3) := by decide +kernel
theorem dX7_revoke_63 : decode cX7_revoke 63 = .ok (.iinc 3 1, 3) := by decide +kernel
theorem dX7_revoke_66 : decode cX7_revoke 66 = .ok (.goto (-47), 3) := by decide +kernel
theorem dX7_revoke_69 : decode cX7_revoke 69 = .ok (.iload_n 2, 1) := by decide +kernel
theorem dX7_revoke_70 : decode cX7_revoke 70 = .ok (.ireturn, 1) := by decide +kernel
theorem dX7_type_0 : decode cX7_type 0 = .ok (.iload_n 1, 1) := by decide +kernel
theorem dX7_type_1 : decode cX7_type 1 = .ok (.invokestatic 170, 3) := by decide +kernel
theorem dX7_type_4 : decode cX7_type 4 = .ok (.ifCond .ne 11, 3) := by decide +kernel
theorem dX7_type_7 : decode cX7_type 7 = .ok (.new 97, 3) := by decide +kernel
theorem dX7_type_10 : decode cX7_type 10 = .ok (.dup, 1) := by decide +kernel
theorem dX7_type_11 : decode cX7_type 11 = .ok (.invokespecial 99, 3) := by decide +kernel
theorem dX7_type_14 : decode cX7_type 14 = .ok (.athrow, 1) := by decide +kernel
theorem dX7_type_15 : decode cX7_type 15 = .ok (.aload_n 0, 1) := by decide +kernel
theorem dX7_type_16 : decode cX7_type 16 = .ok (.iload_n 1, 1) := by decide +kernel
theorem dX7_type_17 : decode cX7_type 17 = .ok (.invokevirtual 173, 3) := by decide +kernel
theorem dX7_type_20 : decode cX7_type 20 = .ok (.astore 6, 2) := by decide +kernel
theorem dX7_type_22 : decode cX7_type 22 = .ok (.iload_n 2, 1) := by decide +kernel
theorem dX7_type_23 : decode cX7_type 23 = .ok (.invokestatic 177, 3) := by decide +kernel
theorem dX7_type_26 : decode cX7_type 26 = .ok (.iload_n 3, 1) := by decide +kernel
theorem dX7_type_27 : decode cX7_type 27 = .ok (.invokestatic 177, 3) := by decide +kernel
theorem dX7_type_30 : decode cX7_type 30 = .ok (.iadd, 1) := by decide +kernel
theorem dX7_type_31 : decode cX7_type 31 = .ok (.iload 4, 2) := by decide +kernel
theorem dX7_type_33 : decode cX7_type 33 = .ok (.invokestatic 177, 3) := by decide +kernel
theorem dX7_type_36 : decode cX7_type 36 = .ok (.iadd, 1) := by decide +kernel
theorem dX7_type_37 : decode cX7_type 37 = .ok (.iload 5, 2) := by decide +kernel
theorem dX7_type_39 : decode cX7_type 39 = .ok (.invokestatic 177, 3) := by decide +kernel
theorem dX7_type_42 : decode cX7_type 42 = .ok (.iadd, 1) := by decide +kernel
theorem dX7_type_43 : decode cX7_type 43 = .ok (.istore 7, 2) := by decide +kernel
theorem dX7_type_45 : decode cX7_type 45 = .ok (.aload 6, 2) := by decide +kernel
theorem dX7_type_47 : decode cX7_type 47 = .ok (.getfield 181, 3) := by decide +kernel
theorem dX7_type_50 : decode cX7_type 50 = .ok (.iload 7, 2) := by decide +kernel
theorem dX7_type_52 : decode cX7_type 52 = .ok (.iadd, 1) := by decide +kernel
theorem dX7_type_53 : decode cX7_type 53 = .ok (.bipush 40, 2) := by decide +kernel
theorem dX7_type_55 : decode cX7_type 55 = .ok (.if_icmp .le 11, 3) := by decide +kernel
theorem dX7_type_58 : decode cX7_type 58 = .ok (.new 184, 3) := by decide +kernel
theorem dX7_type_61 : decode cX7_type 61 = .ok (.dup, 1) := by decide +kernel
theorem dX7_type_62 : decode cX7_type 62 = .ok (.invokespecial 186, 3) := by decide +kernel
theorem dX7_type_65 : decode cX7_type 65 = .ok (.athrow, 1) := by decide +kernel
theorem dX7_type_66 : decode cX7_type 66 = .ok (.aload 6, 2) := by decide +kernel
theorem dX7_type_68 : decode cX7_type 68 = .ok (.iload_n 2, 1) := by decide +kernel
theorem dX7_type_69 : decode cX7_type 69 = .ok (.invokevirtual 187, 3) := by decide +kernel
theorem dX7_type_72 : decode cX7_type 72 = .ok (.aload 6, 2) := by decide +kernel
theorem dX7_type_74 : decode cX7_type 74 = .ok (.iload_n 3, 1) := by decide +kernel
theorem dX7_type_75 : decode cX7_type 75 = .ok (.invokevirtual 187, 3) := by decide +kernel
theorem dX7_type_78 : decode cX7_type 78 = .ok (.aload 6, 2) := by decide +kernel
theorem dX7_type_80 : decode cX7_type 80 = .ok (.iload 4, 2) := by decide +kernel
theorem dX7_type_82 : decode cX7_type 82 = .ok (.invokevirtual 187, 3) := by decide +kernel
theorem dX7_type_85 : decode cX7_type 85 = .ok (.aload 6, 2) := by decide +kernel
theorem dX7_type_87 : decode cX7_type 87 = .ok (.iload 5, 2) := by decide +kernel
theorem dX7_type_89 : decode cX7_type 89 = .ok (.invokevirtual 187, 3) := by decide +kernel
theorem dX7_type_92 : decode cX7_type 92 = .ok (.aload 6, 2) := by decide +kernel
theorem dX7_type_94 : decode cX7_type 94 = .ok (.getfield 181, 3) := by decide +kernel
theorem dX7_type_97 : decode cX7_type 97 = .ok (.ireturn, 1) := by decide +kernel
theorem dX7_erase_0 : decode cX7_erase 0 = .ok (.iload_n 1, 1) := by decide +kernel
theorem dX7_erase_1 : decode cX7_erase 1 = .ok (.invokestatic 170, 3) := by decide +kernel
theorem dX7_erase_4 : decode cX7_erase 4 = .ok (.ifCond .ne 11, 3) := by decide +kernel
theorem dX7_erase_7 : decode cX7_erase 7 = .ok (.new 97, 3) := by decide +kernel
theorem dX7_erase_10 : decode cX7_erase 10 = .ok (.dup, 1) := by decide +kernel
theorem dX7_erase_11 : decode cX7_erase 11 = .ok (.invokespecial 99, 3) := by decide +kernel
theorem dX7_erase_14 : decode cX7_erase 14 = .ok (.athrow, 1) := by decide +kernel
theorem dX7_erase_15 : decode cX7_erase 15 = .ok (.aload_n 0, 1) := by decide +kernel
theorem dX7_erase_16 : decode cX7_erase 16 = .ok (.iload_n 1, 1) := by decide +kernel
theorem dX7_erase_17 : decode cX7_erase 17 = .ok (.invokevirtual 173, 3) := by decide +kernel
theorem dX7_erase_20 : decode cX7_erase 20 = .ok (.astore_n 2, 1) := by decide +kernel
theorem dX7_erase_21 : decode cX7_erase 21 = .ok (.aload_n 2, 1) := by decide +kernel
theorem dX7_erase_22 : decode cX7_erase 22 = .ok (.getfield 181, 3) := by decide +kernel
theorem dX7_erase_25 : decode cX7_erase 25 = .ok (.istore_n 3, 1) := by decide +kernel
theorem dX7_erase_26 : decode cX7_erase 26 = .ok (.aload_n 2, 1) := by decide +kernel
theorem dX7_erase_27 : decode cX7_erase 27 = .ok (.iconst 0, 1) := by decide +kernel
theorem dX7_erase_28 : decode cX7_erase 28 = .ok (.putfield 181, 3) := by decide +kernel
theorem dX7_erase_31 : decode cX7_erase 31 = .ok (.iload_n 3, 1) := by decide +kernel
theorem dX7_erase_32 : decode cX7_erase 32 = .ok (.ireturn, 1) := by decide +kernel
theorem dX7_put_0 : decode cX7_put 0 = .ok (.iload_n 1, 1) := by decide +kernel
theorem dX7_put_1 : decode cX7_put 1 = .ok (.invokestatic 170, 3) := by decide +kernel
theorem dX7_put_4 : decode cX7_put 4 = .ok (.ifCond .eq 15, 3) := by decide +kernel
theorem dX7_put_7 : decode cX7_put 7 = .ok (.iload_n 3, 1) := by decide +kernel
theorem dX7_put_8 : decode cX7_put 8 = .ok (.iconst 1, 1) := by decide +kernel
theorem dX7_put_9 : decode cX7_put 9 = .ok (.if_icmp .lt 10, 3) := by decide +kernel
theorem dX7_put_12 : decode cX7_put 12 = .ok (.iload_n 3, 1) := by decide +kernel
theorem dX7_put_13 : decode cX7_put 13 = .ok (.sipush 255, 3) := by decide +kernel
theorem dX7_put_16 : decode cX7_put 16 = .ok (.if_icmp .le 11, 3) := by decide +kernel
theorem dX7_put_19 : decode cX7_put 19 = .ok (.new 97, 3) := by decide +kernel
theorem dX7_put_22 : decode cX7_put 22 = .ok (.dup, 1) := by decide +kernel
theorem dX7_put_23 : decode cX7_put 23 = .ok (.invokespecial 99, 3) := by decide +kernel
theorem dX7_put_26 : decode cX7_put 26 = .ok (.athrow, 1) := by decide +kernel
theorem dX7_put_27 : decode cX7_put 27 = .ok (.aload_n 0, 1) := by decide +kernel
theorem dX7_put_28 : decode cX7_put 28 = .ok (.iload_n 1, 1) := by decide +kernel
theorem dX7_put_29 : decode cX7_put 29 = .ok (.invokevirtual 173, 3) := by decide +kernel
theorem dX7_put_32 : decode cX7_put 32 = .ok (.astore 4, 2) := by decide +kernel
theorem dX7_put_34 : decode cX7_put 34 = .ok (.aload 4, 2) := by decide +kernel
theorem dX7_put_36 : decode cX7_put 36 = .ok (.iload_n 2, 1) := by decide +kernel
theorem dX7_put_37 : decode cX7_put 37 = .ok (.invokevirtual 190, 3) := by decide +kernel
theorem dX7_put_40 : decode cX7_put 40 = .ok (.ifCond .ne 11, 3) := by decide +kernel
theorem dX7_put_43 : decode cX7_put 43 = .ok (.new 193, 3) := by decide +kernel
theorem dX7_put_46 : decode cX7_put 46 = .ok (.dup, 1) := by decide +kernel
theorem dX7_put_47 : decode cX7_put 47 = .ok (.invokespecial 195, 3) := by decide +kernel
theorem dX7_put_50 : decode cX7_put 50 = .ok (.athrow, 1) := by decide +kernel
theorem dX7_put_51 : decode cX7_put 51 = .ok (.aload 4, 2) := by decide +kernel
theorem dX7_put_53 : decode cX7_put 53 = .ok (.getfield 196, 3) := by decide +kernel
theorem dX7_put_56 : decode cX7_put 56 = .ok (.iload_n 2, 1) := by decide +kernel
theorem dX7_put_57 : decode cX7_put 57 = .ok (.iaload, 1) := by decide +kernel
theorem dX7_put_58 : decode cX7_put 58 = .ok (.istore 5, 2) := by decide +kernel
theorem dX7_put_60 : decode cX7_put 60 = .ok (.aload 4, 2) := by decide +kernel
theorem dX7_put_62 : decode cX7_put 62 = .ok (.getfield 196, 3) := by decide +kernel
theorem dX7_put_65 : decode cX7_put 65 = .ok (.iload_n 2, 1) := by decide +kernel
theorem dX7_put_66 : decode cX7_put 66 = .ok (.iload_n 3, 1) := by decide +kernel
theorem dX7_put_67 : decode cX7_put 67 = .ok (.iastore, 1) := by decide +kernel
theorem dX7_put_68 : decode cX7_put 68 = .ok (.iload 5, 2) := by decide +kernel
theorem dX7_put_70 : decode cX7_put 70 = .ok (.ireturn, 1) := by decide +kernel
theorem dX7_sign_0 : decode cX7_sign 0 = .ok (.iload_n 1, 1) := by decide +kernel
theorem dX7_sign_1 : decode cX7_sign 1 = .ok (.invokestatic 170, 3) := by decide +kernel
theorem dX7_sign_4 : decode cX7_sign 4 = .ok (.ifCond .ne 11, 3) := by decide +kernel
theorem dX7_sign_7 : decode cX7_sign 7 = .ok (.new 97, 3) := by decide +kernel
theorem dX7_sign_10 : decode cX7_sign 10 = .ok (.dup, 1) := by decide +kernel
theorem dX7_sign_11 : decode cX7_sign 11 = .ok (.invokespecial 99, 3) := by decide +kernel
theorem dX7_sign_14 : decode cX7_sign 14 = .ok (.athrow, 1) := by decide +kernel
theorem dX7_sign_15 : decode cX7_sign 15 = .ok (.aload_n 0, 1) := by decide +kernel
theorem dX7_sign_16 : decode cX7_sign 16 = .ok (.iload_n 1, 1) := by decide +kernel
theorem dX7_sign_17 : decode cX7_sign 17 = .ok (.invokevirtual 173, 3) := by decide +kernel
theorem dX7_sign_20 : decode cX7_sign 20 = .ok (.astore_n 3, 1) := by decide +kernel
theorem dX7_sign_21 : decode cX7_sign 21 = .ok (.aload_n 3, 1) := by decide +kernel
theorem dX7_sign_22 : decode cX7_sign 22 = .ok (.iload_n 2, 1) := by decide +kernel
theorem dX7_sign_23 : decode cX7_sign 23 = .ok (.invokevirtual 190, 3) := by decide +kernel
theorem dX7_sign_26 : decode cX7_sign 26 = .ok (.ifCond .eq 12, 3) := by decide +kernel
theorem dX7_sign_29 : decode cX7_sign 29 = .ok (.aload_n 3, 1) := by decide +kernel
theorem dX7_sign_30 : decode cX7_sign 30 = .ok (.getfield 196, 3) := by decide +kernel
theorem dX7_sign_33 : decode cX7_sign 33 = .ok (.iload_n 2, 1) := by decide +kernel
theorem dX7_sign_34 : decode cX7_sign 34 = .ok (.iaload, 1) := by decide +kernel
theorem dX7_sign_35 : decode cX7_sign 35 = .ok (.goto 4, 3) := by decide +kernel
theorem dX7_sign_38 : decode cX7_sign 38 = .ok (.iconst (-1), 1) := by decide +kernel
theorem dX7_sign_39 : decode cX7_sign 39 = .ok (.ireturn, 1) := by decide +kernel
theorem dX7_session_0 : decode cX7_session 0 = .ok (.iload_n 1, 1) := by decide +kernel
theorem dX7_session_1 : decode cX7_session 1 = .ok (.ifCond .lt 18, 3) := by decide +kernel
theorem dX7_session_4 : decode cX7_session 4 = .ok (.iload_n 1, 1) := by decide +kernel
theorem dX7_session_5 : decode cX7_session 5 = .ok (.bipush 8, 2) := by decide +kernel
theorem dX7_session_7 : decode cX7_session 7 = .ok (.if_icmp .ge 12, 3) := by decide +kernel
theorem dX7_session_10 : decode cX7_session 10 = .ok (.iload_n 2, 1) := by decide +kernel
theorem dX7_session_11 : decode cX7_session 11 = .ok (.ifCond .lt 8, 3) := by decide +kernel
theorem dX7_session_14 : decode cX7_session 14 = .ok (.iload_n 2, 1) := by decide +kernel
theorem dX7_session_15 : decode cX7_session 15 = .ok (.iconst 3, 1) := by decide +kernel
theorem dX7_session_16 : decode cX7_session 16 = .ok (.if_icmp .le 11, 3) := by decide +kernel
theorem dX7_session_19 : decode cX7_session 19 = .ok (.new 97, 3) := by decide +kernel
theorem dX7_session_22 : decode cX7_session 22 = .ok (.dup, 1) := by decide +kernel
theorem dX7_session_23 : decode cX7_session 23 = .ok (.invokespecial 99, 3) := by decide +kernel
theorem dX7_session_26 : decode cX7_session 26 = .ok (.athrow, 1) := by decide +kernel
theorem dX7_session_27 : decode cX7_session 27 = .ok (.aload_n 0, 1) := by decide +kernel
theorem dX7_session_28 : decode cX7_session 28 = .ok (.getfield 44, 3) := by decide +kernel
theorem dX7_session_31 : decode cX7_session 31 = .ok (.iload_n 1, 1) := by decide +kernel
theorem dX7_session_32 : decode cX7_session 32 = .ok (.aaload, 1) := by decide +kernel
theorem dX7_session_33 : decode cX7_session 33 = .ok (.astore_n 3, 1) := by decide +kernel
theorem dX7_session_34 : decode cX7_session 34 = .ok (.aload_n 3, 1) := by decide +kernel
theorem dX7_session_35 : decode cX7_session 35 = .ok (.getfield 163, 3) := by decide +kernel
theorem dX7_session_38 : decode cX7_session 38 = .ok (.ifCond .ne 7, 3) := by decide +kernel
theorem dX7_session_41 : decode cX7_session 41 = .ok (.ldc2_w 199, 3) := by decide +kernel
theorem dX7_session_44 : decode cX7_session 44 = .ok (.lreturn, 1) := by decide +kernel
theorem dX7_session_45 : decode cX7_session 45 = .ok (.iload_n 2, 1) := by decide +kernel
theorem dX7_session_46 : decode cX7_session 46 = .ok (.tableswitch 42 0 2 #[26, 32, 37], 26) := by decide +kernel
theorem dX7_session_72 : decode cX7_session 72 = .ok (.aload_n 3, 1) := by decide +kernel
theorem dX7_session_73 : decode cX7_session 73 = .ok (.getfield 167, 3) := by decide +kernel
theorem dX7_session_76 : decode cX7_session 76 = .ok (.i2l, 1) := by decide +kernel
theorem dX7_session_77 : decode cX7_session 77 = .ok (.lreturn, 1) := by decide +kernel
theorem dX7_session_78 : decode cX7_session 78 = .ok (.aload_n 3, 1) := by decide +kernel
theorem dX7_session_79 : decode cX7_session 79 = .ok (.getfield 201, 3) := by decide +kernel
theorem dX7_session_82 : decode cX7_session 82 = .ok (.lreturn, 1) := by decide +kernel
theorem dX7_session_83 : decode cX7_session 83 = .ok (.aload_n 3, 1) := by decide +kernel
theorem dX7_session_84 : decode cX7_session 84 = .ok (.getfield 204, 3) := by decide +kernel
theorem dX7_session_87 : decode cX7_session 87 = .ok (.lreturn, 1) := by decide +kernel
theorem dX7_session_88 : decode cX7_session 88 = .ok (.aload_n 3, 1) := by decide +kernel
theorem dX7_session_89 : decode cX7_session 89 = .ok (.getfield 160, 3) := by decide +kernel
theorem dX7_session_92 : decode cX7_session 92 = .ok (.lreturn, 1) := by decide +kernel
theorem dX7_count_0 : decode cX7_count 0 = .ok (.iload_n 1, 1) := by decide +kernel
theorem dX7_count_1 : decode cX7_count 1 = .ok (.tableswitch 95 0 6 #[43, 48, 53, 58, 63, 68, 84], 43) := by decide +kernel
theorem dX7_count_44 : decode cX7_count 44 = .ok (.aload_n 0, 1) := by decide +kernel
theorem dX7_count_45 : decode cX7_count 45 = .ok (.invokevirtual 207, 3) := by decide +kernel
theorem dX7_count_48 : decode cX7_count 48 = .ok (.ireturn, 1) := by decide +kernel
theorem dX7_count_49 : decode cX7_count 49 = .ok (.aload_n 0, 1) := by decide +kernel
theorem dX7_count_50 : decode cX7_count 50 = .ok (.getfield 76, 3) := by decide +kernel
theorem dX7_count_53 : decode cX7_count 53 = .ok (.ireturn, 1) := by decide +kernel
theorem dX7_count_54 : decode cX7_count 54 = .ok (.aload_n 0, 1) := by decide +kernel
theorem dX7_count_55 : decode cX7_count 55 = .ok (.getfield 80, 3) := by decide +kernel
theorem dX7_count_58 : decode cX7_count 58 = .ok (.ireturn, 1) := by decide +kernel
theorem dX7_count_59 : decode cX7_count 59 = .ok (.aload_n 0, 1) := by decide +kernel
theorem dX7_count_60 : decode cX7_count 60 = .ok (.getfield 83, 3) := by decide +kernel
theorem dX7_count_63 : decode cX7_count 63 = .ok (.ireturn, 1) := by decide +kernel
theorem dX7_count_64 : decode cX7_count 64 = .ok (.aload_n 0, 1) := by decide +kernel
theorem dX7_count_65 : decode cX7_count 65 = .ok (.getfield 86, 3) := by decide +kernel
theorem dX7_count_68 : decode cX7_count 68 = .ok (.ireturn, 1) := by decide +kernel
theorem dX7_count_69 : decode cX7_count 69 = .ok (.aload_n 0, 1) := by decide +kernel
theorem dX7_count_70 : decode cX7_count 70 = .ok (.getfield 19, 3) := by decide +kernel
theorem dX7_count_73 : decode cX7_count 73 = .ok (.aload_n 0, 1) := by decide +kernel
theorem dX7_count_74 : decode cX7_count 74 = .ok (.getfield 61, 3) := by decide +kernel
theorem dX7_count_77 : decode cX7_count 77 = .ok (.aload_n 0, 1) := by decide +kernel
theorem dX7_count_78 : decode cX7_count 78 = .ok (.getfield 67, 3) := by decide +kernel
theorem dX7_count_81 : decode cX7_count 81 = .ok (.invokevirtual 210, 3) := by decide +kernel
theorem dX7_count_84 : decode cX7_count 84 = .ok (.ireturn, 1) := by decide +kernel
theorem dX7_count_85 : decode cX7_count 85 = .ok (.aload_n 0, 1) := by decide +kernel
theorem dX7_count_86 : decode cX7_count 86 = .ok (.getfield 19, 3) := by decide +kernel
theorem dX7_count_89 : decode cX7_count 89 = .ok (.invokevirtual 108, 3) := by decide +kernel
theorem dX7_count_92 : decode cX7_count 92 = .ok (.getfield 118, 3) := by decide +kernel
theorem dX7_count_95 : decode cX7_count 95 = .ok (.ireturn, 1) := by decide +kernel
theorem dX7_count_96 : decode cX7_count 96 = .ok (.new 97, 3) := by decide +kernel
theorem dX7_count_99 : decode cX7_count 99 = .ok (.dup, 1) := by decide +kernel
theorem dX7_count_100 : decode cX7_count 100 = .ok (.invokespecial 99, 3) := by decide +kernel
theorem dX7_count_103 : decode cX7_count 103 = .ok (.athrow, 1) := by decide +kernel
theorem dX7_octet_0 : decode cX7_octet 0 = .ok (.iload_n 1, 1) := by decide +kernel
theorem dX7_octet_1 : decode cX7_octet 1 = .ok (.ifCond .lt 9, 3) := by decide +kernel
theorem dX7_octet_4 : decode cX7_octet 4 = .ok (.iload_n 1, 1) := by decide +kernel
theorem dX7_octet_5 : decode cX7_octet 5 = .ok (.bipush 32, 2) := by decide +kernel
theorem dX7_octet_7 : decode cX7_octet 7 = .ok (.if_icmp .lt 11, 3) := by decide +kernel
theorem dX7_octet_10 : decode cX7_octet 10 = .ok (.new 97, 3) := by decide +kernel
theorem dX7_octet_13 : decode cX7_octet 13 = .ok (.dup, 1) := by decide +kernel
theorem dX7_octet_14 : decode cX7_octet 14 = .ok (.invokespecial 99, 3) := by decide +kernel
theorem dX7_octet_17 : decode cX7_octet 17 = .ok (.athrow, 1) := by decide +kernel
theorem dX7_octet_18 : decode cX7_octet 18 = .ok (.aload_n 0, 1) := by decide +kernel
theorem dX7_octet_19 : decode cX7_octet 19 = .ok (.getfield 10, 3) := by decide +kernel
theorem dX7_octet_22 : decode cX7_octet 22 = .ok (.aload_n 0, 1) := by decide +kernel
theorem dX7_octet_23 : decode cX7_octet 23 = .ok (.getfield 19, 3) := by decide +kernel
theorem dX7_octet_26 : decode cX7_octet 26 = .ok (.invokevirtual 108, 3) := by decide +kernel
theorem dX7_octet_29 : decode cX7_octet 29 = .ok (.getfield 214, 3) := by decide +kernel
theorem dX7_octet_32 : decode cX7_octet 32 = .ok (.aload_n 0, 1) := by decide +kernel
theorem dX7_octet_33 : decode cX7_octet 33 = .ok (.getfield 26, 3) := by decide +kernel
theorem dX7_octet_36 : decode cX7_octet 36 = .ok (.getfield 196, 3) := by decide +kernel
theorem dX7_octet_39 : decode cX7_octet 39 = .ok (.aload_n 0, 1) := by decide +kernel
theorem dX7_octet_40 : decode cX7_octet 40 = .ok (.getfield 26, 3) := by decide +kernel
theorem dX7_octet_43 : decode cX7_octet 43 = .ok (.getfield 181, 3) := by decide +kernel
theorem dX7_octet_46 : decode cX7_octet 46 = .ok (.invokevirtual 217, 3) := by decide +kernel
theorem dX7_octet_49 : decode cX7_octet 49 = .ok (.aload_n 0, 1) := by decide +kernel
theorem dX7_octet_50 : decode cX7_octet 50 = .ok (.getfield 10, 3) := by decide +kernel
theorem dX7_octet_53 : decode cX7_octet 53 = .ok (.getfield 221, 3) := by decide +kernel
theorem dX7_octet_56 : decode cX7_octet 56 = .ok (.iload_n 1, 1) := by decide +kernel
theorem dX7_octet_57 : decode cX7_octet 57 = .ok (.iaload, 1) := by decide +kernel
theorem dX7_octet_58 : decode cX7_octet 58 = .ok (.ireturn, 1) := by decide +kernel
theorem dX7_isLimit_0 : decode cX7_isLimit 0 = .ok (.lload_n 0, 1) := by decide +kernel
theorem dX7_isLimit_1 : decode cX7_isLimit 1 = .ok (.lconst 1, 1) := by decide +kernel
theorem dX7_isLimit_2 : decode cX7_isLimit 2 = .ok (.lcmp, 1) := by decide +kernel
theorem dX7_isLimit_3 : decode cX7_isLimit 3 = .ok (.ifCond .lt 15, 3) := by decide +kernel
theorem dX7_isLimit_6 : decode cX7_isLimit 6 = .ok (.lload_n 0, 1) := by decide +kernel
theorem dX7_isLimit_7 : decode cX7_isLimit 7 = .ok (.ldc2_w 222, 3) := by decide +kernel
theorem dX7_isLimit_10 : decode cX7_isLimit 10 = .ok (.lcmp, 1) := by decide +kernel
theorem dX7_isLimit_11 : decode cX7_isLimit 11 = .ok (.ifCond .gt 7, 3) := by decide +kernel
theorem dX7_isLimit_14 : decode cX7_isLimit 14 = .ok (.iconst 1, 1) := by decide +kernel
theorem dX7_isLimit_15 : decode cX7_isLimit 15 = .ok (.goto 4, 3) := by decide +kernel
theorem dX7_isLimit_18 : decode cX7_isLimit 18 = .ok (.iconst 0, 1) := by decide +kernel
theorem dX7_isLimit_19 : decode cX7_isLimit 19 = .ok (.ireturn, 1) := by decide +kernel
theorem dX7_isUser_0 : decode cX7_isUser 0 = .ok (.iload_n 0, 1) := by decide +kernel
theorem dX7_isUser_1 : decode cX7_isUser 1 = .ok (.ifCond .lt 13, 3) := by decide +kernel
theorem dX7_isUser_4 : decode cX7_isUser 4 = .ok (.iload_n 0, 1) := by decide +kernel
theorem dX7_isUser_5 : decode cX7_isUser 5 = .ok (.bipush 8, 2) := by decide +kernel
theorem dX7_isUser_7 : decode cX7_isUser 7 = .ok (.if_icmp .ge 7, 3) := by decide +kernel
theorem dX7_isUser_10 : decode cX7_isUser 10 = .ok (.iconst 1, 1) := by decide +kernel
theorem dX7_isUser_11 : decode cX7_isUser 11 = .ok (.goto 4, 3) := by decide +kernel
theorem dX7_isUser_14 : decode cX7_isUser 14 = .ok (.iconst 0, 1) := by decide +kernel
theorem dX7_isUser_15 : decode cX7_isUser 15 = .ok (.ireturn, 1) := by decide +kernel
theorem dX7_isText_0 : decode cX7_isText 0 = .ok (.iload_n 0, 1) := by decide +kernel
theorem dX7_isText_1 : decode cX7_isText 1 = .ok (.ifCond .eq 8, 3) := by decide +kernel
theorem dX7_isText_4 : decode cX7_isText 4 = .ok (.iload_n 0, 1) := by decide +kernel
theorem dX7_isText_5 : decode cX7_isText 5 = .ok (.iconst 1, 1) := by decide +kernel
theorem dX7_isText_6 : decode cX7_isText 6 = .ok (.if_icmp .ne 7, 3) := by decide +kernel
theorem dX7_isText_9 : decode cX7_isText 9 = .ok (.iconst 1, 1) := by decide +kernel
theorem dX7_isText_10 : decode cX7_isText 10 = .ok (.goto 4, 3) := by decide +kernel
theorem dX7_isText_13 : decode cX7_isText 13 = .ok (.iconst 0, 1) := by decide +kernel
theorem dX7_isText_14 : decode cX7_isText 14 = .ok (.ireturn, 1) := by decide +kernel
theorem dX7_textOf_0 : decode cX7_textOf 0 = .ok (.iload_n 1, 1) := by decide +kernel
theorem dX7_textOf_1 : decode cX7_textOf 1 = .ok (.ifCond .ne 10, 3) := by decide +kernel
theorem dX7_textOf_4 : decode cX7_textOf 4 = .ok (.aload_n 0, 1) := by decide +kernel
theorem dX7_textOf_5 : decode cX7_textOf 5 = .ok (.getfield 26, 3) := by decide +kernel
theorem dX7_textOf_8 : decode cX7_textOf 8 = .ok (.goto 7, 3) := by decide +kernel
theorem dX7_textOf_11 : decode cX7_textOf 11 = .ok (.aload_n 0, 1) := by decide +kernel
theorem dX7_textOf_12 : decode cX7_textOf 12 = .ok (.getfield 30, 3) := by decide +kernel
theorem dX7_textOf_15 : decode cX7_textOf 15 = .ok (.areturn, 1) := by decide +kernel
theorem dX7_openSessions_0 : decode cX7_openSessions 0 = .ok (.iconst 0, 1) := by decide +kernel
theorem dX7_openSessions_1 : decode cX7_openSessions 1 = .ok (.istore_n 1, 1) := by decide +kernel
theorem dX7_openSessions_2 : decode cX7_openSessions 2 = .ok (.iconst 0, 1) := by decide +kernel
theorem dX7_openSessions_3 : decode cX7_openSessions 3 = .ok (.istore_n 2, 1) := by decide +kernel
theorem dX7_openSessions_4 : decode cX7_openSessions 4 = .ok (.iload_n 2, 1) := by decide +kernel
theorem dX7_openSessions_5 : decode cX7_openSessions 5 = .ok (.bipush 8, 2) := by decide +kernel
theorem dX7_openSessions_7 : decode cX7_openSessions 7 = .ok (.if_icmp .ge 24, 3) := by decide +kernel
theorem dX7_openSessions_10 : decode cX7_openSessions 10 = .ok (.aload_n 0, 1) := by decide +kernel
theorem dX7_openSessions_11 : decode cX7_openSessions 11 = .ok (.getfield 44, 3) := by decide +kernel
theorem dX7_openSessions_14 : decode cX7_openSessions 14 = .ok (.iload_n 2, 1) := by decide +kernel
theorem dX7_openSessions_15 : decode cX7_openSessions 15 = .ok (.aaload, 1) := by decide +kernel
theorem dX7_openSessions_16 : decode cX7_openSessions 16 = .ok (.getfield 163, 3) := by decide +kernel
theorem dX7_openSessions_19 : decode cX7_openSessions 19 = .ok (.ifCond .eq 6, 3) := by decide +kernel
theorem dX7_openSessions_22 : decode cX7_openSessions 22 = .ok (.iinc 1 1, 3) := by decide +kernel
theorem dX7_openSessions_25 : decode cX7_openSessions 25 = .ok (.iinc 2 1, 3) := by decide +kernel
theorem dX7_openSessions_28 : decode cX7_openSessions 28 = .ok (.goto (-24), 3) := by decide +kernel
theorem dX7_openSessions_31 : decode cX7_openSessions 31 = .ok (.iload_n 1, 1) := by decide +kernel
theorem dX7_openSessions_32 : decode cX7_openSessions 32 = .ok (.ireturn, 1) := by decide +kernel
theorem dX7_freeNumber_0 : decode cX7_freeNumber 0 = .ok (.iconst 0, 1) := by decide +kernel
theorem dX7_freeNumber_1 : decode cX7_freeNumber 1 = .ok (.istore_n 1, 1) := by decide +kernel
theorem dX7_freeNumber_2 : decode cX7_freeNumber 2 = .ok (.iload_n 1, 1) := by decide +kernel
theorem dX7_freeNumber_3 : decode cX7_freeNumber 3 = .ok (.bipush 8, 2) := by decide +kernel
theorem dX7_freeNumber_5 : decode cX7_freeNumber 5 = .ok (.if_icmp .ge 23, 3) := by decide +kernel
theorem dX7_freeNumber_8 : decode cX7_freeNumber 8 = .ok (.aload_n 0, 1) := by decide +kernel
theorem dX7_freeNumber_9 : decode cX7_freeNumber 9 = .ok (.getfield 44, 3) := by decide +kernel
theorem dX7_freeNumber_12 : decode cX7_freeNumber 12 = .ok (.iload_n 1, 1) := by decide +kernel
theorem dX7_freeNumber_13 : decode cX7_freeNumber 13 = .ok (.aaload, 1) := by decide +kernel
theorem dX7_freeNumber_14 : decode cX7_freeNumber 14 = .ok (.getfield 163, 3) := by decide +kernel
theorem dX7_freeNumber_17 : decode cX7_freeNumber 17 = .ok (.ifCond .ne 5, 3) := by decide +kernel
theorem dX7_freeNumber_20 : decode cX7_freeNumber 20 = .ok (.iload_n 1, 1) := by decide +kernel
theorem dX7_freeNumber_21 : decode cX7_freeNumber 21 = .ok (.ireturn, 1) := by decide +kernel
theorem dX7_freeNumber_22 : decode cX7_freeNumber 22 = .ok (.iinc 1 1, 3) := by decide +kernel
theorem dX7_freeNumber_25 : decode cX7_freeNumber 25 = .ok (.goto (-23), 3) := by decide +kernel
theorem dX7_freeNumber_28 : decode cX7_freeNumber 28 = .ok (.iconst (-1), 1) := by decide +kernel
theorem dX7_freeNumber_29 : decode cX7_freeNumber 29 = .ok (.ireturn, 1) := by decide +kernel
theorem dX7_endStaleSessions_0 : decode cX7_endStaleSessions 0 = .ok (.iconst 0, 1) := by decide +kernel
theorem dX7_endStaleSessions_1 : decode cX7_endStaleSessions 1 = .ok (.istore_n 1, 1) := by decide +kernel
theorem dX7_endStaleSessions_2 : decode cX7_endStaleSessions 2 = .ok (.iload_n 1, 1) := by decide +kernel
theorem dX7_endStaleSessions_3 : decode cX7_endStaleSessions 3 = .ok (.bipush 8, 2) := by decide +kernel
theorem dX7_endStaleSessions_5 : decode cX7_endStaleSessions 5 = .ok (.if_icmp .ge 45, 3) := by decide +kernel
theorem dX7_endStaleSessions_8 : decode cX7_endStaleSessions 8 = .ok (.aload_n 0, 1) := by decide +kernel
theorem dX7_endStaleSessions_9 : decode cX7_endStaleSessions 9 = .ok (.aload_n 0, 1) := by decide +kernel
theorem dX7_endStaleSessions_10 : decode cX7_endStaleSessions 10 = .ok (.getfield 44, 3) := by decide +kernel
theorem dX7_endStaleSessions_13 : decode cX7_endStaleSessions 13 = .ok (.iload_n 1, 1) := by decide +kernel
theorem dX7_endStaleSessions_14 : decode cX7_endStaleSessions 14 = .ok (.aaload, 1) := by decide +kernel
theorem dX7_endStaleSessions_15 : decode cX7_endStaleSessions 15 = .ok (.invokevirtual 224, 3) := by decide +kernel
theorem dX7_endStaleSessions_18 : decode cX7_endStaleSessions 18 = .ok (.ifCond .ne 16, 3) := by decide +kernel
theorem dX7_endStaleSessions_21 : decode cX7_endStaleSessions 21 = .ok (.aload_n 0, 1) := by decide +kernel
theorem dX7_endStaleSessions_22 : decode cX7_endStaleSessions 22 = .ok (.aload_n 0, 1) := by decide +kernel
theorem dX7_endStaleSessions_23 : decode cX7_endStaleSessions 23 = .ok (.getfield 44, 3) := by decide +kernel
theorem dX7_endStaleSessions_26 : decode cX7_endStaleSessions 26 = .ok (.iload_n 1, 1) := by decide +kernel
theorem dX7_endStaleSessions_27 : decode cX7_endStaleSessions 27 = .ok (.aaload, 1) := by decide +kernel
theorem dX7_endStaleSessions_28 : decode cX7_endStaleSessions 28 = .ok (.invokevirtual 228, 3) := by decide +kernel
theorem dX7_endStaleSessions_31 : decode cX7_endStaleSessions 31 = .ok (.ifCond .eq 13, 3) := by decide +kernel
theorem dX7_endStaleSessions_34 : decode cX7_endStaleSessions 34 = .ok (.aload_n 0, 1) := by decide +kernel
theorem dX7_endStaleSessions_35 : decode cX7_endStaleSessions 35 = .ok (.getfield 44, 3) := by decide +kernel
theorem dX7_endStaleSessions_38 : decode cX7_endStaleSessions 38 = .ok (.iload_n 1, 1) := by decide +kernel
theorem dX7_endStaleSessions_39 : decode cX7_endStaleSessions 39 = .ok (.aaload, 1) := by decide +kernel
theorem dX7_endStaleSessions_40 : decode cX7_endStaleSessions 40 = .ok (.iconst 0, 1) := by decide +kernel
theorem dX7_endStaleSessions_41 : decode cX7_endStaleSessions 41 = .ok (.putfield 163, 3) := by decide +kernel
theorem dX7_endStaleSessions_44 : decode cX7_endStaleSessions 44 = .ok (.iinc 1 1, 3) := by decide +kernel
theorem dX7_endStaleSessions_47 : decode cX7_endStaleSessions 47 = .ok (.goto (-45), 3) := by decide +kernel
theorem dX7_endStaleSessions_50 : decode cX7_endStaleSessions 50 = .ok (.return_, 1) := by decide +kernel
theorem dX7_isOld_0 : decode cX7_isOld 0 = .ok (.aload_n 0, 1) := by decide +kernel
theorem dX7_isOld_1 : decode cX7_isOld 1 = .ok (.getfield 61, 3) := by decide +kernel
theorem dX7_isOld_4 : decode cX7_isOld 4 = .ok (.aload_n 1, 1) := by decide +kernel
theorem dX7_isOld_5 : decode cX7_isOld 5 = .ok (.getfield 204, 3) := by decide +kernel
theorem dX7_isOld_8 : decode cX7_isOld 8 = .ok (.lsub, 1) := by decide +kernel
theorem dX7_isOld_9 : decode cX7_isOld 9 = .ok (.aload_n 0, 1) := by decide +kernel
theorem dX7_isOld_10 : decode cX7_isOld 10 = .ok (.getfield 70, 3) := by decide +kernel
theorem dX7_isOld_13 : decode cX7_isOld 13 = .ok (.lcmp, 1) := by decide +kernel
theorem dX7_isOld_14 : decode cX7_isOld 14 = .ok (.ifCond .lt 7, 3) := by decide +kernel
theorem dX7_isOld_17 : decode cX7_isOld 17 = .ok (.iconst 1, 1) := by decide +kernel
theorem dX7_isOld_18 : decode cX7_isOld 18 = .ok (.goto 4, 3) := by decide +kernel
theorem dX7_isOld_21 : decode cX7_isOld 21 = .ok (.iconst 0, 1) := by decide +kernel
theorem dX7_isOld_22 : decode cX7_isOld 22 = .ok (.ireturn, 1) := by decide +kernel
theorem dX7_isIdle_0 : decode cX7_isIdle 0 = .ok (.aload_n 0, 1) := by decide +kernel
theorem dX7_isIdle_1 : decode cX7_isIdle 1 = .ok (.getfield 61, 3) := by decide +kernel
theorem dX7_isIdle_4 : decode cX7_isIdle 4 = .ok (.aload_n 1, 1) := by decide +kernel
theorem dX7_isIdle_5 : decode cX7_isIdle 5 = .ok (.getfield 160, 3) := by decide +kernel
theorem dX7_isIdle_8 : decode cX7_isIdle 8 = .ok (.lsub, 1) := by decide +kernel
theorem dX7_isIdle_9 : decode cX7_isIdle 9 = .ok (.aload_n 0, 1) := by decide +kernel
theorem dX7_isIdle_10 : decode cX7_isIdle 10 = .ok (.getfield 73, 3) := by decide +kernel
theorem dX7_isIdle_13 : decode cX7_isIdle 13 = .ok (.lcmp, 1) := by decide +kernel
theorem dX7_isIdle_14 : decode cX7_isIdle 14 = .ok (.ifCond .lt 7, 3) := by decide +kernel
theorem dX7_isIdle_17 : decode cX7_isIdle 17 = .ok (.iconst 1, 1) := by decide +kernel
theorem dX7_isIdle_18 : decode cX7_isIdle 18 = .ok (.goto 4, 3) := by decide +kernel
theorem dX7_isIdle_21 : decode cX7_isIdle 21 = .ok (.iconst 0, 1) := by decide +kernel
theorem dX7_isIdle_22 : decode cX7_isIdle 22 = .ok (.ireturn, 1) := by decide +kernel
theorem dX7_nextId_0 : decode cX7_nextId 0 = .ok (.aload_n 0, 1) := by decide +kernel
theorem dX7_nextId_1 : decode cX7_nextId 1 = .ok (.getfield 76, 3) := by decide +kernel
theorem dX7_nextId_4 : decode cX7_nextId 4 = .ok (.i2l, 1) := by decide +kernel
theorem dX7_nextId_5 : decode cX7_nextId 5 = .ok (.aload_n 0, 1) := by decide +kernel
theorem dX7_nextId_6 : decode cX7_nextId 6 = .ok (.getfield 52, 3) := by decide +kernel
theorem dX7_nextId_9 : decode cX7_nextId 9 = .ok (.iconst 0, 1) := by decide +kernel
theorem dX7_nextId_10 : decode cX7_nextId 10 = .ok (.invokestatic 91, 3) := by decide +kernel
theorem dX7_nextId_13 : decode cX7_nextId 13 = .ok (.aload_n 0, 1) := by decide +kernel
theorem dX7_nextId_14 : decode cX7_nextId 14 = .ok (.getfield 10, 3) := by decide +kernel
theorem dX7_nextId_17 : decode cX7_nextId 17 = .ok (.aload_n 0, 1) := by decide +kernel
theorem dX7_nextId_18 : decode cX7_nextId 18 = .ok (.getfield 48, 3) := by decide +kernel
theorem dX7_nextId_21 : decode cX7_nextId 21 = .ok (.aload_n 0, 1) := by decide +kernel
theorem dX7_nextId_22 : decode cX7_nextId 22 = .ok (.getfield 52, 3) := by decide +kernel
theorem dX7_nextId_25 : decode cX7_nextId 25 = .ok (.bipush 8, 2) := by decide +kernel
theorem dX7_nextId_27 : decode cX7_nextId 27 = .ok (.invokevirtual 217, 3) := by decide +kernel
theorem dX7_nextId_30 : decode cX7_nextId 30 = .ok (.aload_n 0, 1) := by decide +kernel
theorem dX7_nextId_31 : decode cX7_nextId 31 = .ok (.getfield 10, 3) := by decide +kernel
theorem dX7_nextId_34 : decode cX7_nextId 34 = .ok (.getfield 221, 3) := by decide +kernel
theorem dX7_nextId_37 : decode cX7_nextId 37 = .ok (.iconst 0, 1) := by decide +kernel
theorem dX7_nextId_38 : decode cX7_nextId 38 = .ok (.invokestatic 231, 3) := by decide +kernel
theorem dX7_nextId_41 : decode cX7_nextId 41 = .ok (.lreturn, 1) := by decide +kernel
theorem dX7_judge_0 : decode cX7_judge 0 = .ok (.aload_n 0, 1) := by decide +kernel
theorem dX7_judge_1 : decode cX7_judge 1 = .ok (.getfield 26, 3) := by decide +kernel
theorem dX7_judge_4 : decode cX7_judge 4 = .ok (.aload_n 0, 1) := by decide +kernel
theorem dX7_judge_5 : decode cX7_judge 5 = .ok (.getfield 55, 3) := by decide +kernel
theorem dX7_judge_8 : decode cX7_judge 8 = .ok (.invokestatic 235, 3) := by decide +kernel
theorem dX7_judge_11 : decode cX7_judge 11 = .ok (.ifCond .ne 6, 3) := by decide +kernel
theorem dX7_judge_14 : decode cX7_judge 14 = .ok (.bipush (-2), 2) := by decide +kernel
theorem dX7_judge_16 : decode cX7_judge 16 = .ok (.ireturn, 1) := by decide +kernel
theorem dX7_judge_17 : decode cX7_judge 17 = .ok (.aload_n 0, 1) := by decide +kernel
theorem dX7_judge_18 : decode cX7_judge 18 = .ok (.getfield 19, 3) := by decide +kernel
theorem dX7_judge_21 : decode cX7_judge 21 = .ok (.aload_n 0, 1) := by decide +kernel
theorem dX7_judge_22 : decode cX7_judge 22 = .ok (.getfield 55, 3) := by decide +kernel
theorem dX7_judge_25 : decode cX7_judge 25 = .ok (.iconst 0, 1) := by decide +kernel
theorem dX7_judge_26 : decode cX7_judge 26 = .ok (.iaload, 1) := by decide +kernel
theorem dX7_judge_27 : decode cX7_judge 27 = .ok (.aload_n 0, 1) := by decide +kernel
theorem dX7_judge_28 : decode cX7_judge 28 = .ok (.getfield 61, 3) := by decide +kernel
theorem dX7_judge_31 : decode cX7_judge 31 = .ok (.aload_n 0, 1) := by decide +kernel
theorem dX7_judge_32 : decode cX7_judge 32 = .ok (.getfield 67, 3) := by decide +kernel
theorem dX7_judge_35 : decode cX7_judge 35 = .ok (.invokevirtual 241, 3) := by decide +kernel
theorem dX7_judge_38 : decode cX7_judge 38 = .ok (.astore_n 2, 1) := by decide +kernel
theorem dX7_judge_39 : decode cX7_judge 39 = .ok (.aload_n 2, 1) := by decide +kernel
theorem dX7_judge_40 : decode cX7_judge 40 = .ok (.ifnonnull 6, 3) := by decide +kernel
theorem dX7_judge_43 : decode cX7_judge 43 = .ok (.bipush (-3), 2) := by decide +kernel
theorem dX7_judge_45 : decode cX7_judge 45 = .ok (.ireturn, 1) := by decide +kernel
theorem dX7_judge_46 : decode cX7_judge 46 = .ok (.aload_n 0, 1) := by decide +kernel
theorem dX7_judge_47 : decode cX7_judge 47 = .ok (.aload_n 2, 1) := by decide +kernel
theorem dX7_judge_48 : decode cX7_judge 48 = .ok (.invokevirtual 245, 3) := by decide +kernel
theorem dX7_judge_51 : decode cX7_judge 51 = .ok (.ifCond .ne 6, 3) := by decide +kernel
theorem dX7_judge_54 : decode cX7_judge 54 = .ok (.bipush (-4), 2) := by decide +kernel
theorem dX7_judge_56 : decode cX7_judge 56 = .ok (.ireturn, 1) := by decide +kernel
theorem dX7_judge_57 : decode cX7_judge 57 = .ok (.aload_n 0, 1) := by decide +kernel
theorem dX7_judge_58 : decode cX7_judge 58 = .ok (.aload_n 0, 1) := by decide +kernel
theorem dX7_judge_59 : decode cX7_judge 59 = .ok (.getfield 55, 3) := by decide +kernel
theorem dX7_judge_62 : decode cX7_judge 62 = .ok (.iconst 1, 1) := by decide +kernel
theorem dX7_judge_63 : decode cX7_judge 63 = .ok (.iaload, 1) := by decide +kernel
theorem dX7_judge_64 : decode cX7_judge 64 = .ok (.aload_n 0, 1) := by decide +kernel
theorem dX7_judge_65 : decode cX7_judge 65 = .ok (.getfield 55, 3) := by decide +kernel
theorem dX7_judge_68 : decode cX7_judge 68 = .ok (.iconst 2, 1) := by decide +kernel
theorem dX7_judge_69 : decode cX7_judge 69 = .ok (.invokestatic 231, 3) := by decide +kernel
theorem dX7_judge_72 : decode cX7_judge 72 = .ok (.invokevirtual 249, 3) := by decide +kernel
theorem dX7_judge_75 : decode cX7_judge 75 = .ok (.istore_n 3, 1) := by decide +kernel
theorem dX7_judge_76 : decode cX7_judge 76 = .ok (.iload_n 3, 1) := by decide +kernel
theorem dX7_judge_77 : decode cX7_judge 77 = .ok (.iconst (-1), 1) := by decide +kernel
theorem dX7_judge_78 : decode cX7_judge 78 = .ok (.if_icmp .ne 6, 3) := by decide +kernel
theorem dX7_judge_81 : decode cX7_judge 81 = .ok (.bipush (-5), 2) := by decide +kernel
theorem dX7_judge_83 : decode cX7_judge 83 = .ok (.ireturn, 1) := by decide +kernel
theorem dX7_judge_84 : decode cX7_judge 84 = .ok (.aload_n 0, 1) := by decide +kernel
theorem dX7_judge_85 : decode cX7_judge 85 = .ok (.aload_n 0, 1) := by decide +kernel
theorem dX7_judge_86 : decode cX7_judge 86 = .ok (.getfield 44, 3) := by decide +kernel
theorem dX7_judge_89 : decode cX7_judge 89 = .ok (.iload_n 3, 1) := by decide +kernel
theorem dX7_judge_90 : decode cX7_judge 90 = .ok (.aaload, 1) := by decide +kernel
theorem dX7_judge_91 : decode cX7_judge 91 = .ok (.invokevirtual 224, 3) := by decide +kernel
theorem dX7_judge_94 : decode cX7_judge 94 = .ok (.ifCond .eq 16, 3) := by decide +kernel
theorem dX7_judge_97 : decode cX7_judge 97 = .ok (.aload_n 0, 1) := by decide +kernel
theorem dX7_judge_98 : decode cX7_judge 98 = .ok (.getfield 44, 3) := by decide +kernel
theorem dX7_judge_101 : decode cX7_judge 101 = .ok (.iload_n 3, 1) := by decide +kernel
theorem dX7_judge_102 : decode cX7_judge 102 = .ok (.aaload, 1) := by decide +kernel
theorem dX7_judge_103 : decode cX7_judge 103 = .ok (.iconst 0, 1) := by decide +kernel
theorem dX7_judge_104 : decode cX7_judge 104 = .ok (.putfield 163, 3) := by decide +kernel
theorem dX7_judge_107 : decode cX7_judge 107 = .ok (.bipush (-6), 2) := by decide +kernel
theorem dX7_judge_109 : decode cX7_judge 109 = .ok (.ireturn, 1) := by decide +kernel
theorem dX7_judge_110 : decode cX7_judge 110 = .ok (.aload_n 0, 1) := by decide +kernel
theorem dX7_judge_111 : decode cX7_judge 111 = .ok (.aload_n 0, 1) := by decide +kernel
theorem dX7_judge_112 : decode cX7_judge 112 = .ok (.getfield 44, 3) := by decide +kernel
theorem dX7_judge_115 : decode cX7_judge 115 = .ok (.iload_n 3, 1) := by decide +kernel
theorem dX7_judge_116 : decode cX7_judge 116 = .ok (.aaload, 1) := by decide +kernel
theorem dX7_judge_117 : decode cX7_judge 117 = .ok (.invokevirtual 228, 3) := by decide +kernel
theorem dX7_judge_120 : decode cX7_judge 120 = .ok (.ifCond .eq 16, 3) := by decide +kernel
theorem dX7_judge_123 : decode cX7_judge 123 = .ok (.aload_n 0, 1) := by decide +kernel
theorem dX7_judge_124 : decode cX7_judge 124 = .ok (.getfield 44, 3) := by decide +kernel
theorem dX7_judge_127 : decode cX7_judge 127 = .ok (.iload_n 3, 1) := by decide +kernel
theorem dX7_judge_128 : decode cX7_judge 128 = .ok (.aaload, 1) := by decide +kernel
theorem dX7_judge_129 : decode cX7_judge 129 = .ok (.iconst 0, 1) := by decide +kernel
theorem dX7_judge_130 : decode cX7_judge 130 = .ok (.putfield 163, 3) := by decide +kernel
theorem dX7_judge_133 : decode cX7_judge 133 = .ok (.bipush (-7), 2) := by decide +kernel
theorem dX7_judge_135 : decode cX7_judge 135 = .ok (.ireturn, 1) := by decide +kernel
theorem dX7_judge_136 : decode cX7_judge 136 = .ok (.iload_n 1, 1) := by decide +kernel
theorem dX7_judge_137 : decode cX7_judge 137 = .ok (.ifCond .eq 33, 3) := by decide +kernel
theorem dX7_judge_140 : decode cX7_judge 140 = .ok (.aload_n 0, 1) := by decide +kernel
theorem dX7_judge_141 : decode cX7_judge 141 = .ok (.aload_n 2, 1) := by decide +kernel
theorem dX7_judge_142 : decode cX7_judge 142 = .ok (.aload_n 0, 1) := by decide +kernel
theorem dX7_judge_143 : decode cX7_judge 143 = .ok (.getfield 33, 3) := by decide +kernel
theorem dX7_judge_146 : decode cX7_judge 146 = .ok (.invokevirtual 253, 3) := by decide +kernel
theorem dX7_judge_149 : decode cX7_judge 149 = .ok (.aload_n 0, 1) := by decide +kernel
theorem dX7_judge_150 : decode cX7_judge 150 = .ok (.getfield 30, 3) := by decide +kernel
theorem dX7_judge_153 : decode cX7_judge 153 = .ok (.aload_n 0, 1) := by decide +kernel
theorem dX7_judge_154 : decode cX7_judge 154 = .ok (.getfield 33, 3) := by decide +kernel
theorem dX7_judge_157 : decode cX7_judge 157 = .ok (.invokevirtual 257, 3) := by decide +kernel
theorem dX7_judge_160 : decode cX7_judge 160 = .ok (.ifCond .eq 7, 3) := by decide +kernel
theorem dX7_judge_163 : decode cX7_judge 163 = .ok (.iload_n 3, 1) := by decide +kernel
theorem dX7_judge_164 : decode cX7_judge 164 = .ok (.goto 5, 3) := by decide +kernel
theorem dX7_judge_167 : decode cX7_judge 167 = .ok (.bipush (-8), 2) := by decide +kernel
theorem dX7_judge_169 : decode cX7_judge 169 = .ok (.ireturn, 1) := by decide +kernel
theorem dX7_judge_170 : decode cX7_judge 170 = .ok (.iload_n 3, 1) := by decide +kernel
theorem dX7_judge_171 : decode cX7_judge 171 = .ok (.ireturn, 1) := by decide +kernel
theorem dX7_isSealedBy_0 : decode cX7_isSealedBy 0 = .ok (.aload_n 0, 1) := by decide +kernel
theorem dX7_isSealedBy_1 : decode cX7_isSealedBy 1 = .ok (.getfield 10, 3) := by decide +kernel
theorem dX7_isSealedBy_4 : decode cX7_isSealedBy 4 = .ok (.aload_n 1, 1) := by decide +kernel
theorem dX7_isSealedBy_5 : decode cX7_isSealedBy 5 = .ok (.getfield 214, 3) := by decide +kernel
theorem dX7_isSealedBy_8 : decode cX7_isSealedBy 8 = .ok (.aload_n 0, 1) := by decide +kernel
theorem dX7_isSealedBy_9 : decode cX7_isSealedBy 9 = .ok (.getfield 55, 3) := by decide +kernel
theorem dX7_isSealedBy_12 : decode cX7_isSealedBy 12 = .ok (.bipush 10, 2) := by decide +kernel
theorem dX7_isSealedBy_14 : decode cX7_isSealedBy 14 = .ok (.invokevirtual 217, 3) := by decide +kernel
theorem dX7_isSealedBy_17 : decode cX7_isSealedBy 17 = .ok (.iconst 0, 1) := by decide +kernel
theorem dX7_isSealedBy_18 : decode cX7_isSealedBy 18 = .ok (.istore_n 2, 1) := by decide +kernel
theorem dX7_isSealedBy_19 : decode cX7_isSealedBy 19 = .ok (.iload_n 2, 1) := by decide +kernel
theorem dX7_isSealedBy_20 : decode cX7_isSealedBy 20 = .ok (.bipush 12, 2) := by decide +kernel
theorem dX7_isSealedBy_22 : decode cX7_isSealedBy 22 = .ok (.if_icmp .ge 32, 3) := by decide +kernel
theorem dX7_isSealedBy_25 : decode cX7_isSealedBy 25 = .ok (.aload_n 0, 1) := by decide +kernel
theorem dX7_isSealedBy_26 : decode cX7_isSealedBy 26 = .ok (.getfield 55, 3) := by decide +kernel
theorem dX7_isSealedBy_29 : decode cX7_isSealedBy 29 = .ok (.bipush 10, 2) := by decide +kernel
theorem dX7_isSealedBy_31 : decode cX7_isSealedBy 31 = .ok (.iload_n 2, 1) := by decide +kernel
theorem dX7_isSealedBy_32 : decode cX7_isSealedBy 32 = .ok (.iadd, 1) := by decide +kernel
theorem dX7_isSealedBy_33 : decode cX7_isSealedBy 33 = .ok (.iaload, 1) := by decide +kernel
theorem dX7_isSealedBy_34 : decode cX7_isSealedBy 34 = .ok (.aload_n 0, 1) := by decide +kernel
theorem dX7_isSealedBy_35 : decode cX7_isSealedBy 35 = .ok (.getfield 10, 3) := by decide +kernel
theorem dX7_isSealedBy_38 : decode cX7_isSealedBy 38 = .ok (.getfield 221, 3) := by decide +kernel
theorem dX7_isSealedBy_41 : decode cX7_isSealedBy 41 = .ok (.iload_n 2, 1) := by decide +kernel
theorem dX7_isSealedBy_42 : decode cX7_isSealedBy 42 = .ok (.iaload, 1) := by decide +kernel
theorem dX7_isSealedBy_43 : decode cX7_isSealedBy 43 = .ok (.if_icmp .eq 5, 3) := by decide +kernel
theorem dX7_isSealedBy_46 : decode cX7_isSealedBy 46 = .ok (.iconst 0, 1) := by decide +kernel
theorem dX7_isSealedBy_47 : decode cX7_isSealedBy 47 = .ok (.ireturn, 1) := by decide +kernel
theorem dX7_isSealedBy_48 : decode cX7_isSealedBy 48 = .ok (.iinc 2 1, 3) := by decide +kernel
theorem dX7_isSealedBy_51 : decode cX7_isSealedBy 51 = .ok (.goto (-32), 3) := by decide +kernel
theorem dX7_isSealedBy_54 : decode cX7_isSealedBy 54 = .ok (.iconst 1, 1) := by decide +kernel
theorem dX7_isSealedBy_55 : decode cX7_isSealedBy 55 = .ok (.ireturn, 1) := by decide +kernel
theorem dX7_numberOf_0 : decode cX7_numberOf 0 = .ok (.iconst 0, 1) := by decide +kernel
theorem dX7_numberOf_1 : decode cX7_numberOf 1 = .ok (.istore 4, 2) := by decide +kernel
theorem dX7_numberOf_3 : decode cX7_numberOf 3 = .ok (.iload 4, 2) := by decide +kernel
theorem dX7_numberOf_5 : decode cX7_numberOf 5 = .ok (.bipush 8, 2) := by decide +kernel
theorem dX7_numberOf_7 : decode cX7_numberOf 7 = .ok (.if_icmp .ge 54, 3) := by decide +kernel
theorem dX7_numberOf_10 : decode cX7_numberOf 10 = .ok (.aload_n 0, 1) := by decide +kernel
theorem dX7_numberOf_11 : decode cX7_numberOf 11 = .ok (.getfield 44, 3) := by decide +kernel
theorem dX7_numberOf_14 : decode cX7_numberOf 14 = .ok (.iload 4, 2) := by decide +kernel
theorem dX7_numberOf_16 : decode cX7_numberOf 16 = .ok (.aaload, 1) := by decide +kernel
theorem dX7_numberOf_17 : decode cX7_numberOf 17 = .ok (.getfield 163, 3) := by decide +kernel
theorem dX7_numberOf_20 : decode cX7_numberOf 20 = .ok (.ifCond .eq 35, 3) := by decide +kernel
theorem dX7_numberOf_23 : decode cX7_numberOf 23 = .ok (.aload_n 0, 1) := by decide +kernel
theorem dX7_numberOf_24 : decode cX7_numberOf 24 = .ok (.getfield 44, 3) := by decide +kernel
theorem dX7_numberOf_27 : decode cX7_numberOf 27 = .ok (.iload 4, 2) := by decide +kernel
theorem dX7_numberOf_29 : decode cX7_numberOf 29 = .ok (.aaload, 1) := by decide +kernel
theorem dX7_numberOf_30 : decode cX7_numberOf 30 = .ok (.getfield 167, 3) := by decide +kernel
theorem dX7_numberOf_33 : decode cX7_numberOf 33 = .ok (.iload_n 1, 1) := by decide +kernel
theorem dX7_numberOf_34 : decode cX7_numberOf 34 = .ok (.if_icmp .ne 21, 3) := by decide +kernel
theorem dX7_numberOf_37 : decode cX7_numberOf 37 = .ok (.aload_n 0, 1) := by decide +kernel
theorem dX7_numberOf_38 : decode cX7_numberOf 38 = .ok (.getfield 44, 3) := by decide +kernel
theorem dX7_numberOf_41 : decode cX7_numberOf 41 = .ok (.iload 4, 2) := by decide +kernel
theorem dX7_numberOf_43 : decode cX7_numberOf 43 = .ok (.aaload, 1) := by decide +kernel
theorem dX7_numberOf_44 : decode cX7_numberOf 44 = .ok (.getfield 201, 3) := by decide +kernel
theorem dX7_numberOf_47 : decode cX7_numberOf 47 = .ok (.lload_n 2, 1) := by decide +kernel
theorem dX7_numberOf_48 : decode cX7_numberOf 48 = .ok (.lcmp, 1) := by decide +kernel
theorem dX7_numberOf_49 : decode cX7_numberOf 49 = .ok (.ifCond .ne 6, 3) := by decide +kernel
theorem dX7_numberOf_52 : decode cX7_numberOf 52 = .ok (.iload 4, 2) := by decide +kernel
theorem dX7_numberOf_54 : decode cX7_numberOf 54 = .ok (.ireturn, 1) := by decide +kernel
theorem dX7_numberOf_55 : decode cX7_numberOf 55 = .ok (.iinc 4 1, 3) := by decide +kernel
theorem dX7_numberOf_58 : decode cX7_numberOf 58 = .ok (.goto (-55), 3) := by decide +kernel
theorem dX7_numberOf_61 : decode cX7_numberOf 61 = .ok (.iconst (-1), 1) := by decide +kernel
theorem dX7_numberOf_62 : decode cX7_numberOf 62 = .ok (.ireturn, 1) := by decide +kernel
theorem dX7_tally_0 : decode cX7_tally 0 = .ok (.iload_n 1, 1) := by decide +kernel
theorem dX7_tally_1 : decode cX7_tally 1 = .ok (.ifCond .lt 16, 3) := by decide +kernel
theorem dX7_tally_4 : decode cX7_tally 4 = .ok (.aload_n 0, 1) := by decide +kernel
theorem dX7_tally_5 : decode cX7_tally 5 = .ok (.dup, 1) := by decide +kernel
theorem dX7_tally_6 : decode cX7_tally 6 = .ok (.getfield 80, 3) := by decide +kernel
theorem dX7_tally_9 : decode cX7_tally 9 = .ok (.iconst 1, 1) := by decide +kernel
theorem dX7_tally_10 : decode cX7_tally 10 = .ok (.iadd, 1) := by decide +kernel
theorem dX7_tally_11 : decode cX7_tally 11 = .ok (.putfield 80, 3) := by decide +kernel
theorem dX7_tally_14 : decode cX7_tally 14 = .ok (.goto 13, 3) := by decide +kernel
theorem dX7_tally_17 : decode cX7_tally 17 = .ok (.aload_n 0, 1) := by decide +kernel
theorem dX7_tally_18 : decode cX7_tally 18 = .ok (.dup, 1) := by decide +kernel
theorem dX7_tally_19 : decode cX7_tally 19 = .ok (.getfield 83, 3) := by decide +kernel
theorem dX7_tally_22 : decode cX7_tally 22 = .ok (.iconst 1, 1) := by decide +kernel
theorem dX7_tally_23 : decode cX7_tally 23 = .ok (.iadd, 1) := by decide +kernel
theorem dX7_tally_24 : decode cX7_tally 24 = .ok (.putfield 83, 3) := by decide +kernel
theorem dX7_tally_27 : decode cX7_tally 27 = .ok (.return_, 1) := by decide +kernel
theorem dX7_writeTexts_0 : decode cX7_writeTexts 0 = .ok (.aload_n 0, 1) := by decide +kernel
theorem dX7_writeTexts_1 : decode cX7_writeTexts 1 = .ok (.getfield 19, 3) := by decide +kernel
theorem dX7_writeTexts_4 : decode cX7_writeTexts 4 = .ok (.invokevirtual 108, 3) := by decide +kernel
theorem dX7_writeTexts_7 : decode cX7_writeTexts 7 = .ok (.astore_n 2, 1) := by decide +kernel
theorem dX7_writeTexts_8 : decode cX7_writeTexts 8 = .ok (.aload_n 0, 1) := by decide +kernel
theorem dX7_writeTexts_9 : decode cX7_writeTexts 9 = .ok (.getfield 55, 3) := by decide +kernel
theorem dX7_writeTexts_12 : decode cX7_writeTexts 12 = .ok (.iconst 0, 1) := by decide +kernel
theorem dX7_writeTexts_13 : decode cX7_writeTexts 13 = .ok (.aload_n 2, 1) := by decide +kernel
theorem dX7_writeTexts_14 : decode cX7_writeTexts 14 = .ok (.getfield 118, 3) := by decide +kernel
theorem dX7_writeTexts_17 : decode cX7_writeTexts 17 = .ok (.iastore, 1) := by decide +kernel
theorem dX7_writeTexts_18 : decode cX7_writeTexts 18 = .ok (.aload_n 0, 1) := by decide +kernel
theorem dX7_writeTexts_19 : decode cX7_writeTexts 19 = .ok (.getfield 55, 3) := by decide +kernel
theorem dX7_writeTexts_22 : decode cX7_writeTexts 22 = .ok (.iconst 1, 1) := by decide +kernel
theorem dX7_writeTexts_23 : decode cX7_writeTexts 23 = .ok (.aload_n 1, 1) := by decide +kernel
theorem dX7_writeTexts_24 : decode cX7_writeTexts 24 = .ok (.getfield 167, 3) := by decide +kernel
theorem dX7_writeTexts_27 : decode cX7_writeTexts 27 = .ok (.iastore, 1) := by decide +kernel
theorem dX7_writeTexts_28 : decode cX7_writeTexts 28 = .ok (.aload_n 1, 1) := by decide +kernel
theorem dX7_writeTexts_29 : decode cX7_writeTexts 29 = .ok (.getfield 201, 3) := by decide +kernel
theorem dX7_writeTexts_32 : decode cX7_writeTexts 32 = .ok (.aload_n 0, 1) := by decide +kernel
theorem dX7_writeTexts_33 : decode cX7_writeTexts 33 = .ok (.getfield 55, 3) := by decide +kernel
theorem dX7_writeTexts_36 : decode cX7_writeTexts 36 = .ok (.iconst 2, 1) := by decide +kernel
theorem dX7_writeTexts_37 : decode cX7_writeTexts 37 = .ok (.invokestatic 91, 3) := by decide +kernel
theorem dX7_writeTexts_40 : decode cX7_writeTexts 40 = .ok (.aload_n 0, 1) := by decide +kernel
theorem dX7_writeTexts_41 : decode cX7_writeTexts 41 = .ok (.getfield 10, 3) := by decide +kernel
theorem dX7_writeTexts_44 : decode cX7_writeTexts 44 = .ok (.aload_n 2, 1) := by decide +kernel
theorem dX7_writeTexts_45 : decode cX7_writeTexts 45 = .ok (.getfield 214, 3) := by decide +kernel
theorem dX7_writeTexts_48 : decode cX7_writeTexts 48 = .ok (.aload_n 0, 1) := by decide +kernel
theorem dX7_writeTexts_49 : decode cX7_writeTexts 49 = .ok (.getfield 55, 3) := by decide +kernel
theorem dX7_writeTexts_52 : decode cX7_writeTexts 52 = .ok (.bipush 10, 2) := by decide +kernel
theorem dX7_writeTexts_54 : decode cX7_writeTexts 54 = .ok (.invokevirtual 217, 3) := by decide +kernel
theorem dX7_writeTexts_57 : decode cX7_writeTexts 57 = .ok (.aload_n 0, 1) := by decide +kernel
theorem dX7_writeTexts_58 : decode cX7_writeTexts 58 = .ok (.getfield 10, 3) := by decide +kernel
theorem dX7_writeTexts_61 : decode cX7_writeTexts 61 = .ok (.getfield 221, 3) := by decide +kernel
theorem dX7_writeTexts_64 : decode cX7_writeTexts 64 = .ok (.iconst 0, 1) := by decide +kernel
theorem dX7_writeTexts_65 : decode cX7_writeTexts 65 = .ok (.aload_n 0, 1) := by decide +kernel
theorem dX7_writeTexts_66 : decode cX7_writeTexts 66 = .ok (.getfield 55, 3) := by decide +kernel
theorem dX7_writeTexts_69 : decode cX7_writeTexts 69 = .ok (.bipush 10, 2) := by decide +kernel
theorem dX7_writeTexts_71 : decode cX7_writeTexts 71 = .ok (.bipush 12, 2) := by decide +kernel
theorem dX7_writeTexts_73 : decode cX7_writeTexts 73 = .ok (.invokestatic 261, 3) := by decide +kernel
theorem dX7_writeTexts_76 : decode cX7_writeTexts 76 = .ok (.aload_n 0, 1) := by decide +kernel
theorem dX7_writeTexts_77 : decode cX7_writeTexts 77 = .ok (.getfield 55, 3) := by decide +kernel
theorem dX7_writeTexts_80 : decode cX7_writeTexts 80 = .ok (.bipush 22, 2) := by decide +kernel
theorem dX7_writeTexts_82 : decode cX7_writeTexts 82 = .ok (.aload_n 0, 1) := by decide +kernel
theorem dX7_writeTexts_83 : decode cX7_writeTexts 83 = .ok (.getfield 26, 3) := by decide +kernel
theorem dX7_writeTexts_86 : decode cX7_writeTexts 86 = .ok (.invokestatic 267, 3) := by decide +kernel
theorem dX7_writeTexts_89 : decode cX7_writeTexts 89 = .ok (.aload_n 0, 1) := by decide +kernel
theorem dX7_writeTexts_90 : decode cX7_writeTexts 90 = .ok (.aload_n 2, 1) := by decide +kernel
theorem dX7_writeTexts_91 : decode cX7_writeTexts 91 = .ok (.aload_n 0, 1) := by decide +kernel
theorem dX7_writeTexts_92 : decode cX7_writeTexts 92 = .ok (.getfield 30, 3) := by decide +kernel
theorem dX7_writeTexts_95 : decode cX7_writeTexts 95 = .ok (.invokevirtual 253, 3) := by decide +kernel
theorem dX7_writeTexts_98 : decode cX7_writeTexts 98 = .ok (.return_, 1) := by decide +kernel
theorem dX7_writeToken_0 : decode cX7_writeToken 0 = .ok (.aload_n 0, 1) := by decide +kernel
theorem dX7_writeToken_1 : decode cX7_writeToken 1 = .ok (.getfield 58, 3) := by decide +kernel
theorem dX7_writeToken_4 : decode cX7_writeToken 4 = .ok (.iconst 0, 1) := by decide +kernel
theorem dX7_writeToken_5 : decode cX7_writeToken 5 = .ok (.bipush 84, 2) := by decide +kernel
theorem dX7_writeToken_7 : decode cX7_writeToken 7 = .ok (.iastore, 1) := by decide +kernel
theorem dX7_writeToken_8 : decode cX7_writeToken 8 = .ok (.aload_n 0, 1) := by decide +kernel
theorem dX7_writeToken_9 : decode cX7_writeToken 9 = .ok (.getfield 55, 3) := by decide +kernel
theorem dX7_writeToken_12 : decode cX7_writeToken 12 = .ok (.iconst 0, 1) := by decide +kernel
theorem dX7_writeToken_13 : decode cX7_writeToken 13 = .ok (.aload_n 0, 1) := by decide +kernel
theorem dX7_writeToken_14 : decode cX7_writeToken 14 = .ok (.getfield 58, 3) := by decide +kernel
theorem dX7_writeToken_17 : decode cX7_writeToken 17 = .ok (.iconst 1, 1) := by decide +kernel
theorem dX7_writeToken_18 : decode cX7_writeToken 18 = .ok (.bipush 10, 2) := by decide +kernel
theorem dX7_writeToken_20 : decode cX7_writeToken 20 = .ok (.invokestatic 261, 3) := by decide +kernel
theorem dX7_writeToken_23 : decode cX7_writeToken 23 = .ok (.aload_n 0, 1) := by decide +kernel
theorem dX7_writeToken_24 : decode cX7_writeToken 24 = .ok (.getfield 10, 3) := by decide +kernel
theorem dX7_writeToken_27 : decode cX7_writeToken 27 = .ok (.aload_n 1, 1) := by decide +kernel
theorem dX7_writeToken_28 : decode cX7_writeToken 28 = .ok (.getfield 214, 3) := by decide +kernel
theorem dX7_writeToken_31 : decode cX7_writeToken 31 = .ok (.aload_n 0, 1) := by decide +kernel
theorem dX7_writeToken_32 : decode cX7_writeToken 32 = .ok (.getfield 58, 3) := by decide +kernel
theorem dX7_writeToken_35 : decode cX7_writeToken 35 = .ok (.bipush 11, 2) := by decide +kernel
theorem dX7_writeToken_37 : decode cX7_writeToken 37 = .ok (.invokevirtual 217, 3) := by decide +kernel
theorem dX7_writeToken_40 : decode cX7_writeToken 40 = .ok (.aload_n 0, 1) := by decide +kernel
theorem dX7_writeToken_41 : decode cX7_writeToken 41 = .ok (.getfield 10, 3) := by decide +kernel
theorem dX7_writeToken_44 : decode cX7_writeToken 44 = .ok (.getfield 221, 3) := by decide +kernel
theorem dX7_writeToken_47 : decode cX7_writeToken 47 = .ok (.bipush 9, 2) := by decide +kernel
theorem dX7_writeToken_49 : decode cX7_writeToken 49 = .ok (.aload_n 2, 1) := by decide +kernel
theorem dX7_writeToken_50 : decode cX7_writeToken 50 = .ok (.invokestatic 267, 3) := by decide +kernel
theorem dX7_writeToken_53 : decode cX7_writeToken 53 = .ok (.return_, 1) := by decide +kernel
theorem dX7_byteOf_0 : decode cX7_byteOf 0 = .ok (.iload_n 0, 1) := by decide +kernel
theorem dX7_byteOf_1 : decode cX7_byteOf 1 = .ok (.bipush 24, 2) := by decide +kernel
theorem dX7_byteOf_3 : decode cX7_byteOf 3 = .ok (.bipush 8, 2) := by decide +kernel
theorem dX7_byteOf_5 : decode cX7_byteOf 5 = .ok (.iload_n 1, 1) := by decide +kernel
theorem dX7_byteOf_6 : decode cX7_byteOf 6 = .ok (.imul, 1) := by decide +kernel
theorem dX7_byteOf_7 : decode cX7_byteOf 7 = .ok (.isub, 1) := by decide +kernel
theorem dX7_byteOf_8 : decode cX7_byteOf 8 = .ok (.iushr, 1) := by decide +kernel
theorem dX7_byteOf_9 : decode cX7_byteOf 9 = .ok (.sipush 255, 3) := by decide +kernel
theorem dX7_byteOf_12 : decode cX7_byteOf 12 = .ok (.iand, 1) := by decide +kernel
theorem dX7_byteOf_13 : decode cX7_byteOf 13 = .ok (.ireturn, 1) := by decide +kernel
theorem dX7_signsIn_0 : decode cX7_signsIn 0 = .ok (.iconst 0, 1) := by decide +kernel
theorem dX7_signsIn_1 : decode cX7_signsIn 1 = .ok (.istore_n 1, 1) := by decide +kernel
theorem dX7_signsIn_2 : decode cX7_signsIn 2 = .ok (.iconst 0, 1) := by decide +kernel
theorem dX7_signsIn_3 : decode cX7_signsIn 3 = .ok (.istore_n 2, 1) := by decide +kernel
theorem dX7_signsIn_4 : decode cX7_signsIn 4 = .ok (.iload_n 2, 1) := by decide +kernel
theorem dX7_signsIn_5 : decode cX7_signsIn 5 = .ok (.iconst 4, 1) := by decide +kernel
theorem dX7_signsIn_6 : decode cX7_signsIn 6 = .ok (.if_icmp .ge 20, 3) := by decide +kernel
theorem dX7_signsIn_9 : decode cX7_signsIn 9 = .ok (.iload_n 0, 1) := by decide +kernel
theorem dX7_signsIn_10 : decode cX7_signsIn 10 = .ok (.iload_n 2, 1) := by decide +kernel
theorem dX7_signsIn_11 : decode cX7_signsIn 11 = .ok (.invokestatic 271, 3) := by decide +kernel
theorem dX7_signsIn_14 : decode cX7_signsIn 14 = .ok (.ifCond .eq 6, 3) := by decide +kernel
theorem dX7_signsIn_17 : decode cX7_signsIn 17 = .ok (.iinc 1 1, 3) := by decide +kernel
theorem dX7_signsIn_20 : decode cX7_signsIn 20 = .ok (.iinc 2 1, 3) := by decide +kernel
theorem dX7_signsIn_23 : decode cX7_signsIn 23 = .ok (.goto (-19), 3) := by decide +kernel
theorem dX7_signsIn_26 : decode cX7_signsIn 26 = .ok (.iload_n 1, 1) := by decide +kernel
theorem dX7_signsIn_27 : decode cX7_signsIn 27 = .ok (.ireturn, 1) := by decide +kernel
theorem dX7_writeLong_0 : decode cX7_writeLong 0 = .ok (.iconst 0, 1) := by decide +kernel
theorem dX7_writeLong_1 : decode cX7_writeLong 1 = .ok (.istore 4, 2) := by decide +kernel
theorem dX7_writeLong_3 : decode cX7_writeLong 3 = .ok (.iload 4, 2) := by decide +kernel
theorem dX7_writeLong_5 : decode cX7_writeLong 5 = .ok (.bipush 8, 2) := by decide +kernel
theorem dX7_writeLong_7 : decode cX7_writeLong 7 = .ok (.if_icmp .ge 30, 3) := by decide +kernel
theorem dX7_writeLong_10 : decode cX7_writeLong 10 = .ok (.aload_n 2, 1) := by decide +kernel
theorem dX7_writeLong_11 : decode cX7_writeLong 11 = .ok (.iload_n 3, 1) := by decide +kernel
theorem dX7_writeLong_12 : decode cX7_writeLong 12 = .ok (.iload 4, 2) := by decide +kernel
theorem dX7_writeLong_14 : decode cX7_writeLong 14 = .ok (.iadd, 1) := by decide +kernel
theorem dX7_writeLong_15 : decode cX7_writeLong 15 = .ok (.lload_n 0, 1) := by decide +kernel
theorem dX7_writeLong_16 : decode cX7_writeLong 16 = .ok (.bipush 56, 2) := by decide +kernel
theorem dX7_writeLong_18 : decode cX7_writeLong 18 = .ok (.bipush 8, 2) := by decide +kernel
theorem dX7_writeLong_20 : decode cX7_writeLong 20 = .ok (.iload 4, 2) := by decide +kernel
theorem dX7_writeLong_22 : decode cX7_writeLong 22 = .ok (.imul, 1) := by decide +kernel
theorem dX7_writeLong_23 : decode cX7_writeLong 23 = .ok (.isub, 1) := by decide +kernel
theorem dX7_writeLong_24 : decode cX7_writeLong 24 = .ok (.lushr, 1) := by decide +kernel
theorem dX7_writeLong_25 : decode cX7_writeLong 25 = .ok (.l2i, 1) := by decide +kernel
theorem dX7_writeLong_26 : decode cX7_writeLong 26 = .ok (.sipush 255, 3) := by decide +kernel
theorem dX7_writeLong_29 : decode cX7_writeLong 29 = .ok (.iand, 1) := by decide +kernel
theorem dX7_writeLong_30 : decode cX7_writeLong 30 = .ok (.iastore, 1) := by decide +kernel
theorem dX7_writeLong_31 : decode cX7_writeLong 31 = .ok (.iinc 4 1, 3) := by decide +kernel
theorem dX7_writeLong_34 : decode cX7_writeLong 34 = .ok (.goto (-31), 3) := by decide +kernel
theorem dX7_writeLong_37 : decode cX7_writeLong 37 = .ok (.return_, 1) := by decide +kernel
theorem dX7_readLong_0 : decode cX7_readLong 0 = .ok (.lconst 0, 1) := by decide +kernel
theorem dX7_readLong_1 : decode cX7_readLong 1 = .ok (.lstore_n 2, 1) := by decide +kernel
theorem dX7_readLong_2 : decode cX7_readLong 2 = .ok (.iconst 0, 1) := by decide +kernel
theorem dX7_readLong_3 : decode cX7_readLong 3 = .ok (.istore 4, 2) := by decide +kernel
theorem dX7_readLong_5 : decode cX7_readLong 5 = .ok (.iload 4, 2) := by decide +kernel
theorem dX7_readLong_7 : decode cX7_readLong 7 = .ok (.bipush 8, 2) := by decide +kernel
theorem dX7_readLong_9 : decode cX7_readLong 9 = .ok (.if_icmp .ge 22, 3) := by decide +kernel
theorem dX7_readLong_12 : decode cX7_readLong 12 = .ok (.lload_n 2, 1) := by decide +kernel
theorem dX7_readLong_13 : decode cX7_readLong 13 = .ok (.bipush 8, 2) := by decide +kernel
theorem dX7_readLong_15 : decode cX7_readLong 15 = .ok (.lshl, 1) := by decide +kernel
theorem dX7_readLong_16 : decode cX7_readLong 16 = .ok (.aload_n 0, 1) := by decide +kernel
theorem dX7_readLong_17 : decode cX7_readLong 17 = .ok (.iload_n 1, 1) := by decide +kernel
theorem dX7_readLong_18 : decode cX7_readLong 18 = .ok (.iload 4, 2) := by decide +kernel
theorem dX7_readLong_20 : decode cX7_readLong 20 = .ok (.iadd, 1) := by decide +kernel
theorem dX7_readLong_21 : decode cX7_readLong 21 = .ok (.iaload, 1) := by decide +kernel
theorem dX7_readLong_22 : decode cX7_readLong 22 = .ok (.i2l, 1) := by decide +kernel
theorem dX7_readLong_23 : decode cX7_readLong 23 = .ok (.lor, 1) := by decide +kernel
theorem dX7_readLong_24 : decode cX7_readLong 24 = .ok (.lstore_n 2, 1) := by decide +kernel
theorem dX7_readLong_25 : decode cX7_readLong 25 = .ok (.iinc 4 1, 3) := by decide +kernel
theorem dX7_readLong_28 : decode cX7_readLong 28 = .ok (.goto (-23), 3) := by decide +kernel
theorem dX7_readLong_31 : decode cX7_readLong 31 = .ok (.lload_n 2, 1) := by decide +kernel
theorem dX7_readLong_32 : decode cX7_readLong 32 = .ok (.lreturn, 1) := by decide +kernel
