theorem dX8_thrown_0 : decode cX8_thrown 0 = .ok (.aload_n 0, 1) := by decide +kernel
theorem dX8_thrown_1 : decode cX8_thrown 1 = .ok (.getfield 166, 3) := by decide +kernel
theorem dX8_thrown_4 : decode cX8_thrown 4 = .ok (.ireturn, 1) := by decide +kernel
theorem dX8_refused_0 : decode cX8_refused 0 = .ok (.aload_n 0, 1) := by decide +kernel
theorem dX8_refused_1 : decode cX8_refused 1 = .ok (.iload_n 1, 1) := by decide +kernel
theorem dX8_refused_2 : decode cX8_refused 2 = .ok (.putfield 166, 3) := by decide +kernel
theorem dX8_refused_5 : decode cX8_refused 5 = .ok (.iload_n 1, 1) := by decide +kernel
theorem dX8_refused_6 : decode cX8_refused 6 = .ok (.ifCond .le 7, 3) := by decide +kernel
theorem dX8_refused_9 : decode cX8_refused 9 = .ok (.iconst 1, 1) := by decide +kernel
theorem dX8_refused_10 : decode cX8_refused 10 = .ok (.goto 4, 3) := by decide +kernel
theorem dX8_refused_13 : decode cX8_refused 13 = .ok (.iconst 0, 1) := by decide +kernel
theorem dX8_refused_14 : decode cX8_refused 14 = .ok (.ireturn, 1) := by decide +kernel
theorem dX8_isIn_0 : decode cX8_isIn 0 = .ok (.lload_n 0, 1) := by decide +kernel
theorem dX8_isIn_1 : decode cX8_isIn 1 = .ok (.lload_n 2, 1) := by decide +kernel
theorem dX8_isIn_2 : decode cX8_isIn 2 = .ok (.lcmp, 1) := by decide +kernel
theorem dX8_isIn_3 : decode cX8_isIn 3 = .ok (.ifCond .lt 14, 3) := by decide +kernel
theorem dX8_isIn_6 : decode cX8_isIn 6 = .ok (.lload_n 0, 1) := by decide +kernel
theorem dX8_isIn_7 : decode cX8_isIn 7 = .ok (.lload 4, 2) := by decide +kernel
theorem dX8_isIn_9 : decode cX8_isIn 9 = .ok (.lcmp, 1) := by decide +kernel
theorem dX8_isIn_10 : decode cX8_isIn 10 = .ok (.ifCond .gt 7, 3) := by decide +kernel
theorem dX8_isIn_13 : decode cX8_isIn 13 = .ok (.iconst 1, 1) := by decide +kernel
theorem dX8_isIn_14 : decode cX8_isIn 14 = .ok (.goto 4, 3) := by decide +kernel
theorem dX8_isIn_17 : decode cX8_isIn 17 = .ok (.iconst 0, 1) := by decide +kernel
theorem dX8_isIn_18 : decode cX8_isIn 18 = .ok (.ireturn, 1) := by decide +kernel
theorem dX8_turn_0 : decode cX8_turn 0 = .ok (.iload_n 0, 1) := by decide +kernel
theorem dX8_turn_1 : decode cX8_turn 1 = .ok (.iload_n 1, 1) := by decide +kernel
theorem dX8_turn_2 : decode cX8_turn 2 = .ok (.iushr, 1) := by decide +kernel
theorem dX8_turn_3 : decode cX8_turn 3 = .ok (.iload_n 0, 1) := by decide +kernel
theorem dX8_turn_4 : decode cX8_turn 4 = .ok (.bipush 32, 2) := by decide +kernel
theorem dX8_turn_6 : decode cX8_turn 6 = .ok (.iload_n 1, 1) := by decide +kernel
theorem dX8_turn_7 : decode cX8_turn 7 = .ok (.isub, 1) := by decide +kernel
theorem dX8_turn_8 : decode cX8_turn 8 = .ok (.ishl, 1) := by decide +kernel
theorem dX8_turn_9 : decode cX8_turn 9 = .ok (.ior, 1) := by decide +kernel
theorem dX8_turn_10 : decode cX8_turn 10 = .ok (.ireturn, 1) := by decide +kernel
theorem dX8_hashNow_0 : decode cX8_hashNow 0 = .ok (.bipush 8, 2) := by decide +kernel
theorem dX8_hashNow_2 : decode cX8_hashNow 2 = .ok (.aload_n 0, 1) := by decide +kernel
theorem dX8_hashNow_3 : decode cX8_hashNow 3 = .ok (.getfield 173, 3) := by decide +kernel
theorem dX8_hashNow_6 : decode cX8_hashNow 6 = .ok (.imul, 1) := by decide +kernel
theorem dX8_hashNow_7 : decode cX8_hashNow 7 = .ok (.istore_n 1, 1) := by decide +kernel
theorem dX8_hashNow_8 : decode cX8_hashNow 8 = .ok (.aload_n 0, 1) := by decide +kernel
theorem dX8_hashNow_9 : decode cX8_hashNow 9 = .ok (.getfield 94, 3) := by decide +kernel
theorem dX8_hashNow_12 : decode cX8_hashNow 12 = .ok (.aload_n 0, 1) := by decide +kernel
theorem dX8_hashNow_13 : decode cX8_hashNow 13 = .ok (.getfield 173, 3) := by decide +kernel
theorem dX8_hashNow_16 : decode cX8_hashNow 16 = .ok (.sipush 128, 3) := by decide +kernel
theorem dX8_hashNow_19 : decode cX8_hashNow 19 = .ok (.iastore, 1) := by decide +kernel
theorem dX8_hashNow_20 : decode cX8_hashNow 20 = .ok (.aload_n 0, 1) := by decide +kernel
theorem dX8_hashNow_21 : decode cX8_hashNow 21 = .ok (.getfield 173, 3) := by decide +kernel
theorem dX8_hashNow_24 : decode cX8_hashNow 24 = .ok (.iconst 1, 1) := by decide +kernel
theorem dX8_hashNow_25 : decode cX8_hashNow 25 = .ok (.iadd, 1) := by decide +kernel
theorem dX8_hashNow_26 : decode cX8_hashNow 26 = .ok (.istore_n 2, 1) := by decide +kernel
theorem dX8_hashNow_27 : decode cX8_hashNow 27 = .ok (.iload_n 2, 1) := by decide +kernel
theorem dX8_hashNow_28 : decode cX8_hashNow 28 = .ok (.bipush 64, 2) := by decide +kernel
theorem dX8_hashNow_30 : decode cX8_hashNow 30 = .ok (.irem, 1) := by decide +kernel
theorem dX8_hashNow_31 : decode cX8_hashNow 31 = .ok (.bipush 56, 2) := by decide +kernel
theorem dX8_hashNow_33 : decode cX8_hashNow 33 = .ok (.if_icmp .eq 16, 3) := by decide +kernel
theorem dX8_hashNow_36 : decode cX8_hashNow 36 = .ok (.aload_n 0, 1) := by decide +kernel
theorem dX8_hashNow_37 : decode cX8_hashNow 37 = .ok (.getfield 94, 3) := by decide +kernel
theorem dX8_hashNow_40 : decode cX8_hashNow 40 = .ok (.iload_n 2, 1) := by decide +kernel
theorem dX8_hashNow_41 : decode cX8_hashNow 41 = .ok (.iconst 0, 1) := by decide +kernel
theorem dX8_hashNow_42 : decode cX8_hashNow 42 = .ok (.iastore, 1) := by decide +kernel
theorem dX8_hashNow_43 : decode cX8_hashNow 43 = .ok (.iinc 2 1, 3) := by decide +kernel
theorem dX8_hashNow_46 : decode cX8_hashNow 46 = .ok (.goto (-19), 3) := by decide +kernel
theorem dX8_hashNow_49 : decode cX8_hashNow 49 = .ok (.iconst 0, 1) := by decide +kernel
theorem dX8_hashNow_50 : decode cX8_hashNow 50 = .ok (.istore_n 3, 1) := by decide +kernel
theorem dX8_hashNow_51 : decode cX8_hashNow 51 = .ok (.iload_n 3, 1) := by decide +kernel
theorem dX8_hashNow_52 : decode cX8_hashNow 52 = .ok (.bipush 8, 2) := by decide +kernel
theorem dX8_hashNow_54 : decode cX8_hashNow 54 = .ok (.if_icmp .ge 39, 3) := by decide +kernel
theorem dX8_hashNow_57 : decode cX8_hashNow 57 = .ok (.aload_n 0, 1) := by decide +kernel
theorem dX8_hashNow_58 : decode cX8_hashNow 58 = .ok (.getfield 94, 3) := by decide +kernel
theorem dX8_hashNow_61 : decode cX8_hashNow 61 = .ok (.iload_n 2, 1) := by decide +kernel
theorem dX8_hashNow_62 : decode cX8_hashNow 62 = .ok (.iload_n 3, 1) := by decide +kernel
theorem dX8_hashNow_63 : decode cX8_hashNow 63 = .ok (.iadd, 1) := by decide +kernel
theorem dX8_hashNow_64 : decode cX8_hashNow 64 = .ok (.iload_n 3, 1) := by decide +kernel
theorem dX8_hashNow_65 : decode cX8_hashNow 65 = .ok (.iconst 4, 1) := by decide +kernel
theorem dX8_hashNow_66 : decode cX8_hashNow 66 = .ok (.if_icmp .ge 7, 3) := by decide +kernel
theorem dX8_hashNow_69 : decode cX8_hashNow 69 = .ok (.iconst 0, 1) := by decide +kernel
theorem dX8_hashNow_70 : decode cX8_hashNow 70 = .ok (.goto 16, 3) := by decide +kernel
theorem dX8_hashNow_73 : decode cX8_hashNow 73 = .ok (.iload_n 1, 1) := by decide +kernel
theorem dX8_hashNow_74 : decode cX8_hashNow 74 = .ok (.bipush 56, 2) := by decide +kernel
theorem dX8_hashNow_76 : decode cX8_hashNow 76 = .ok (.bipush 8, 2) := by decide +kernel
theorem dX8_hashNow_78 : decode cX8_hashNow 78 = .ok (.iload_n 3, 1) := by decide +kernel
theorem dX8_hashNow_79 : decode cX8_hashNow 79 = .ok (.imul, 1) := by decide +kernel
theorem dX8_hashNow_80 : decode cX8_hashNow 80 = .ok (.isub, 1) := by decide +kernel
theorem dX8_hashNow_81 : decode cX8_hashNow 81 = .ok (.ishr, 1) := by decide +kernel
theorem dX8_hashNow_82 : decode cX8_hashNow 82 = .ok (.sipush 255, 3) := by decide +kernel
theorem dX8_hashNow_85 : decode cX8_hashNow 85 = .ok (.iand, 1) := by decide +kernel
theorem dX8_hashNow_86 : decode cX8_hashNow 86 = .ok (.iastore, 1) := by decide +kernel
theorem dX8_hashNow_87 : decode cX8_hashNow 87 = .ok (.iinc 3 1, 3) := by decide +kernel
theorem dX8_hashNow_90 : decode cX8_hashNow 90 = .ok (.goto (-39), 3) := by decide +kernel
theorem dX8_hashNow_93 : decode cX8_hashNow 93 = .ok (.iconst 0, 1) := by decide +kernel
theorem dX8_hashNow_94 : decode cX8_hashNow 94 = .ok (.istore_n 3, 1) := by decide +kernel
theorem dX8_hashNow_95 : decode cX8_hashNow 95 = .ok (.iload_n 3, 1) := by decide +kernel
theorem dX8_hashNow_96 : decode cX8_hashNow 96 = .ok (.bipush 8, 2) := by decide +kernel
theorem dX8_hashNow_98 : decode cX8_hashNow 98 = .ok (.if_icmp .ge 21, 3) := by decide +kernel
theorem dX8_hashNow_101 : decode cX8_hashNow 101 = .ok (.aload_n 0, 1) := by decide +kernel
theorem dX8_hashNow_102 : decode cX8_hashNow 102 = .ok (.getfield 88, 3) := by decide +kernel
theorem dX8_hashNow_105 : decode cX8_hashNow 105 = .ok (.iload_n 3, 1) := by decide +kernel
theorem dX8_hashNow_106 : decode cX8_hashNow 106 = .ok (.aload_n 0, 1) := by decide +kernel
theorem dX8_hashNow_107 : decode cX8_hashNow 107 = .ok (.getfield 85, 3) := by decide +kernel
theorem dX8_hashNow_110 : decode cX8_hashNow 110 = .ok (.iload_n 3, 1) := by decide +kernel
theorem dX8_hashNow_111 : decode cX8_hashNow 111 = .ok (.iaload, 1) := by decide +kernel
theorem dX8_hashNow_112 : decode cX8_hashNow 112 = .ok (.iastore, 1) := by decide +kernel
theorem dX8_hashNow_113 : decode cX8_hashNow 113 = .ok (.iinc 3 1, 3) := by decide +kernel
theorem dX8_hashNow_116 : decode cX8_hashNow 116 = .ok (.goto (-21), 3) := by decide +kernel
theorem dX8_hashNow_119 : decode cX8_hashNow 119 = .ok (.iconst 0, 1) := by decide +kernel
theorem dX8_hashNow_120 : decode cX8_hashNow 120 = .ok (.istore_n 3, 1) := by decide +kernel
theorem dX8_hashNow_121 : decode cX8_hashNow 121 = .ok (.iload_n 3, 1) := by decide +kernel
theorem dX8_hashNow_122 : decode cX8_hashNow 122 = .ok (.iload_n 2, 1) := by decide +kernel
theorem dX8_hashNow_123 : decode cX8_hashNow 123 = .ok (.bipush 8, 2) := by decide +kernel
theorem dX8_hashNow_125 : decode cX8_hashNow 125 = .ok (.iadd, 1) := by decide +kernel
theorem dX8_hashNow_126 : decode cX8_hashNow 126 = .ok (.if_icmp .ge 14, 3) := by decide +kernel
theorem dX8_hashNow_129 : decode cX8_hashNow 129 = .ok (.aload_n 0, 1) := by decide +kernel
theorem dX8_hashNow_130 : decode cX8_hashNow 130 = .ok (.iload_n 3, 1) := by decide +kernel
theorem dX8_hashNow_131 : decode cX8_hashNow 131 = .ok (.invokevirtual 176, 3) := by decide +kernel
theorem dX8_hashNow_134 : decode cX8_hashNow 134 = .ok (.iinc 3 64, 3) := by decide +kernel
theorem dX8_hashNow_137 : decode cX8_hashNow 137 = .ok (.goto (-16), 3) := by decide +kernel
theorem dX8_hashNow_140 : decode cX8_hashNow 140 = .ok (.iconst 0, 1) := by decide +kernel
theorem dX8_hashNow_141 : decode cX8_hashNow 141 = .ok (.istore_n 3, 1) := by decide +kernel
theorem dX8_hashNow_142 : decode cX8_hashNow 142 = .ok (.iload_n 3, 1) := by decide +kernel
theorem dX8_hashNow_143 : decode cX8_hashNow 143 = .ok (.bipush 32, 2) := by decide +kernel
theorem dX8_hashNow_145 : decode cX8_hashNow 145 = .ok (.if_icmp .ge 37, 3) := by decide +kernel
theorem dX8_hashNow_148 : decode cX8_hashNow 148 = .ok (.aload_n 0, 1) := by decide +kernel
theorem dX8_hashNow_149 : decode cX8_hashNow 149 = .ok (.getfield 97, 3) := by decide +kernel
theorem dX8_hashNow_152 : decode cX8_hashNow 152 = .ok (.iload_n 3, 1) := by decide +kernel
theorem dX8_hashNow_153 : decode cX8_hashNow 153 = .ok (.aload_n 0, 1) := by decide +kernel
theorem dX8_hashNow_154 : decode cX8_hashNow 154 = .ok (.getfield 88, 3) := by decide +kernel
theorem dX8_hashNow_157 : decode cX8_hashNow 157 = .ok (.iload_n 3, 1) := by decide +kernel
theorem dX8_hashNow_158 : decode cX8_hashNow 158 = .ok (.iconst 4, 1) := by decide +kernel
theorem dX8_hashNow_159 : decode cX8_hashNow 159 = .ok (.idiv, 1) := by decide +kernel
theorem dX8_hashNow_160 : decode cX8_hashNow 160 = .ok (.iaload, 1) := by decide +kernel
theorem dX8_hashNow_161 : decode cX8_hashNow 161 = .ok (.bipush 24, 2) := by decide +kernel
theorem dX8_hashNow_163 : decode cX8_hashNow 163 = .ok (.bipush 8, 2) := by decide +kernel
theorem dX8_hashNow_165 : decode cX8_hashNow 165 = .ok (.iload_n 3, 1) := by decide +kernel
theorem dX8_hashNow_166 : decode cX8_hashNow 166 = .ok (.iconst 4, 1) := by decide +kernel
theorem dX8_hashNow_167 : decode cX8_hashNow 167 = .ok (.irem, 1) := by decide +kernel
theorem dX8_hashNow_168 : decode cX8_hashNow 168 = .ok (.imul, 1) := by decide +kernel
theorem dX8_hashNow_169 : decode cX8_hashNow 169 = .ok (.isub, 1) := by decide +kernel
theorem dX8_hashNow_170 : decode cX8_hashNow 170 = .ok (.ishr, 1) := by decide +kernel
theorem dX8_hashNow_171 : decode cX8_hashNow 171 = .ok (.sipush 255, 3) := by decide +kernel
theorem dX8_hashNow_174 : decode cX8_hashNow 174 = .ok (.iand, 1) := by decide +kernel
theorem dX8_hashNow_175 : decode cX8_hashNow 175 = .ok (.iastore, 1) := by decide +kernel
theorem dX8_hashNow_176 : decode cX8_hashNow 176 = .ok (.iinc 3 1, 3) := by decide +kernel
theorem dX8_hashNow_179 : decode cX8_hashNow 179 = .ok (.goto (-37), 3) := by decide +kernel
theorem dX8_hashNow_182 : decode cX8_hashNow 182 = .ok (.return_, 1) := by decide +kernel
theorem dX8_seal_0 : decode cX8_seal 0 = .ok (.iconst 0, 1) := by decide +kernel
theorem dX8_seal_1 : decode cX8_seal 1 = .ok (.istore_n 1, 1) := by decide +kernel
theorem dX8_seal_2 : decode cX8_seal 2 = .ok (.iload_n 1, 1) := by decide +kernel
theorem dX8_seal_3 : decode cX8_seal 3 = .ok (.bipush 64, 2) := by decide +kernel
theorem dX8_seal_5 : decode cX8_seal 5 = .ok (.if_icmp .ge 24, 3) := by decide +kernel
theorem dX8_seal_8 : decode cX8_seal 8 = .ok (.aload_n 0, 1) := by decide +kernel
theorem dX8_seal_9 : decode cX8_seal 9 = .ok (.getfield 94, 3) := by decide +kernel
theorem dX8_seal_12 : decode cX8_seal 12 = .ok (.iload_n 1, 1) := by decide +kernel
theorem dX8_seal_13 : decode cX8_seal 13 = .ok (.aload_n 0, 1) := by decide +kernel
theorem dX8_seal_14 : decode cX8_seal 14 = .ok (.getfield 100, 3) := by decide +kernel
theorem dX8_seal_17 : decode cX8_seal 17 = .ok (.iload_n 1, 1) := by decide +kernel
theorem dX8_seal_18 : decode cX8_seal 18 = .ok (.iaload, 1) := by decide +kernel
theorem dX8_seal_19 : decode cX8_seal 19 = .ok (.bipush 54, 2) := by decide +kernel
theorem dX8_seal_21 : decode cX8_seal 21 = .ok (.ixor, 1) := by decide +kernel
theorem dX8_seal_22 : decode cX8_seal 22 = .ok (.iastore, 1) := by decide +kernel
theorem dX8_seal_23 : decode cX8_seal 23 = .ok (.iinc 1 1, 3) := by decide +kernel
theorem dX8_seal_26 : decode cX8_seal 26 = .ok (.goto (-24), 3) := by decide +kernel
theorem dX8_seal_29 : decode cX8_seal 29 = .ok (.iconst 0, 1) := by decide +kernel
theorem dX8_seal_30 : decode cX8_seal 30 = .ok (.istore_n 1, 1) := by decide +kernel
theorem dX8_seal_31 : decode cX8_seal 31 = .ok (.iload_n 1, 1) := by decide +kernel
theorem dX8_seal_32 : decode cX8_seal 32 = .ok (.aload_n 0, 1) := by decide +kernel
theorem dX8_seal_33 : decode cX8_seal 33 = .ok (.getfield 180, 3) := by decide +kernel
theorem dX8_seal_36 : decode cX8_seal 36 = .ok (.if_icmp .ge 24, 3) := by decide +kernel
theorem dX8_seal_39 : decode cX8_seal 39 = .ok (.aload_n 0, 1) := by decide +kernel
theorem dX8_seal_40 : decode cX8_seal 40 = .ok (.getfield 94, 3) := by decide +kernel
theorem dX8_seal_43 : decode cX8_seal 43 = .ok (.bipush 64, 2) := by decide +kernel
theorem dX8_seal_45 : decode cX8_seal 45 = .ok (.iload_n 1, 1) := by decide +kernel
theorem dX8_seal_46 : decode cX8_seal 46 = .ok (.iadd, 1) := by decide +kernel
theorem dX8_seal_47 : decode cX8_seal 47 = .ok (.aload_n 0, 1) := by decide +kernel
theorem dX8_seal_48 : decode cX8_seal 48 = .ok (.getfield 103, 3) := by decide +kernel
theorem dX8_seal_51 : decode cX8_seal 51 = .ok (.iload_n 1, 1) := by decide +kernel
theorem dX8_seal_52 : decode cX8_seal 52 = .ok (.iaload, 1) := by decide +kernel
theorem dX8_seal_53 : decode cX8_seal 53 = .ok (.iastore, 1) := by decide +kernel
theorem dX8_seal_54 : decode cX8_seal 54 = .ok (.iinc 1 1, 3) := by decide +kernel
theorem dX8_seal_57 : decode cX8_seal 57 = .ok (.goto (-26), 3) := by decide +kernel
theorem dX8_seal_60 : decode cX8_seal 60 = .ok (.aload_n 0, 1) := by decide +kernel
theorem dX8_seal_61 : decode cX8_seal 61 = .ok (.bipush 64, 2) := by decide +kernel
theorem dX8_seal_63 : decode cX8_seal 63 = .ok (.aload_n 0, 1) := by decide +kernel
theorem dX8_seal_64 : decode cX8_seal 64 = .ok (.getfield 180, 3) := by decide +kernel
theorem dX8_seal_67 : decode cX8_seal 67 = .ok (.iadd, 1) := by decide +kernel
theorem dX8_seal_68 : decode cX8_seal 68 = .ok (.putfield 173, 3) := by decide +kernel
theorem dX8_seal_71 : decode cX8_seal 71 = .ok (.aload_n 0, 1) := by decide +kernel
theorem dX8_seal_72 : decode cX8_seal 72 = .ok (.invokevirtual 183, 3) := by decide +kernel
theorem dX8_seal_75 : decode cX8_seal 75 = .ok (.iconst 0, 1) := by decide +kernel
theorem dX8_seal_76 : decode cX8_seal 76 = .ok (.istore_n 1, 1) := by decide +kernel
theorem dX8_seal_77 : decode cX8_seal 77 = .ok (.iload_n 1, 1) := by decide +kernel
theorem dX8_seal_78 : decode cX8_seal 78 = .ok (.bipush 64, 2) := by decide +kernel
theorem dX8_seal_80 : decode cX8_seal 80 = .ok (.if_icmp .ge 24, 3) := by decide +kernel
theorem dX8_seal_83 : decode cX8_seal 83 = .ok (.aload_n 0, 1) := by decide +kernel
theorem dX8_seal_84 : decode cX8_seal 84 = .ok (.getfield 94, 3) := by decide +kernel
theorem dX8_seal_87 : decode cX8_seal 87 = .ok (.iload_n 1, 1) := by decide +kernel
theorem dX8_seal_88 : decode cX8_seal 88 = .ok (.aload_n 0, 1) := by decide +kernel
theorem dX8_seal_89 : decode cX8_seal 89 = .ok (.getfield 100, 3) := by decide +kernel
theorem dX8_seal_92 : decode cX8_seal 92 = .ok (.iload_n 1, 1) := by decide +kernel
theorem dX8_seal_93 : decode cX8_seal 93 = .ok (.iaload, 1) := by decide +kernel
theorem dX8_seal_94 : decode cX8_seal 94 = .ok (.bipush 92, 2) := by decide +kernel
theorem dX8_seal_96 : decode cX8_seal 96 = .ok (.ixor, 1) := by decide +kernel
theorem dX8_seal_97 : decode cX8_seal 97 = .ok (.iastore, 1) := by decide +kernel
theorem dX8_seal_98 : decode cX8_seal 98 = .ok (.iinc 1 1, 3) := by decide +kernel
theorem dX8_seal_101 : decode cX8_seal 101 = .ok (.goto (-24), 3) := by decide +kernel
theorem dX8_seal_104 : decode cX8_seal 104 = .ok (.iconst 0, 1) := by decide +kernel
theorem dX8_seal_105 : decode cX8_seal 105 = .ok (.istore_n 1, 1) := by decide +kernel
theorem dX8_seal_106 : decode cX8_seal 106 = .ok (.iload_n 1, 1) := by decide +kernel
theorem dX8_seal_107 : decode cX8_seal 107 = .ok (.bipush 32, 2) := by decide +kernel
theorem dX8_seal_109 : decode cX8_seal 109 = .ok (.if_icmp .ge 24, 3) := by decide +kernel
theorem dX8_seal_112 : decode cX8_seal 112 = .ok (.aload_n 0, 1) := by decide +kernel
theorem dX8_seal_113 : decode cX8_seal 113 = .ok (.getfield 94, 3) := by decide +kernel
theorem dX8_seal_116 : decode cX8_seal 116 = .ok (.bipush 64, 2) := by decide +kernel
theorem dX8_seal_118 : decode cX8_seal 118 = .ok (.iload_n 1, 1) := by decide +kernel
theorem dX8_seal_119 : decode cX8_seal 119 = .ok (.iadd, 1) := by decide +kernel
theorem dX8_seal_120 : decode cX8_seal 120 = .ok (.aload_n 0, 1) := by decide +kernel
theorem dX8_seal_121 : decode cX8_seal 121 = .ok (.getfield 97, 3) := by decide +kernel
theorem dX8_seal_124 : decode cX8_seal 124 = .ok (.iload_n 1, 1) := by decide +kernel
theorem dX8_seal_125 : decode cX8_seal 125 = .ok (.iaload, 1) := by decide +kernel
theorem dX8_seal_126 : decode cX8_seal 126 = .ok (.iastore, 1) := by decide +kernel
theorem dX8_seal_127 : decode cX8_seal 127 = .ok (.iinc 1 1, 3) := by decide +kernel
theorem dX8_seal_130 : decode cX8_seal 130 = .ok (.goto (-24), 3) := by decide +kernel
theorem dX8_seal_133 : decode cX8_seal 133 = .ok (.aload_n 0, 1) := by decide +kernel
theorem dX8_seal_134 : decode cX8_seal 134 = .ok (.bipush 96, 2) := by decide +kernel
theorem dX8_seal_136 : decode cX8_seal 136 = .ok (.putfield 173, 3) := by decide +kernel
theorem dX8_seal_139 : decode cX8_seal 139 = .ok (.aload_n 0, 1) := by decide +kernel
theorem dX8_seal_140 : decode cX8_seal 140 = .ok (.invokevirtual 183, 3) := by decide +kernel
theorem dX8_seal_143 : decode cX8_seal 143 = .ok (.return_, 1) := by decide +kernel
theorem dX8_say_0 : decode cX8_say 0 = .ok (.aload_n 0, 1) := by decide +kernel
theorem dX8_say_1 : decode cX8_say 1 = .ok (.getfield 103, 3) := by decide +kernel
theorem dX8_say_4 : decode cX8_say 4 = .ok (.aload_n 0, 1) := by decide +kernel
theorem dX8_say_5 : decode cX8_say 5 = .ok (.getfield 180, 3) := by decide +kernel
theorem dX8_say_8 : decode cX8_say 8 = .ok (.iload_n 1, 1) := by decide +kernel
theorem dX8_say_9 : decode cX8_say 9 = .ok (.sipush 255, 3) := by decide +kernel
theorem dX8_say_12 : decode cX8_say 12 = .ok (.iand, 1) := by decide +kernel
theorem dX8_say_13 : decode cX8_say 13 = .ok (.iastore, 1) := by decide +kernel
theorem dX8_say_14 : decode cX8_say 14 = .ok (.aload_n 0, 1) := by decide +kernel
theorem dX8_say_15 : decode cX8_say 15 = .ok (.dup, 1) := by decide +kernel
theorem dX8_say_16 : decode cX8_say 16 = .ok (.getfield 180, 3) := by decide +kernel
theorem dX8_say_19 : decode cX8_say 19 = .ok (.iconst 1, 1) := by decide +kernel
theorem dX8_say_20 : decode cX8_say 20 = .ok (.iadd, 1) := by decide +kernel
theorem dX8_say_21 : decode cX8_say 21 = .ok (.putfield 180, 3) := by decide +kernel
theorem dX8_say_24 : decode cX8_say 24 = .ok (.return_, 1) := by decide +kernel
theorem dX8_takeKey_0 : decode cX8_takeKey 0 = .ok (.iconst 0, 1) := by decide +kernel
theorem dX8_takeKey_1 : decode cX8_takeKey 1 = .ok (.istore_n 2, 1) := by decide +kernel
theorem dX8_takeKey_2 : decode cX8_takeKey 2 = .ok (.iload_n 2, 1) := by decide +kernel
theorem dX8_takeKey_3 : decode cX8_takeKey 3 = .ok (.bipush 64, 2) := by decide +kernel
theorem dX8_takeKey_5 : decode cX8_takeKey 5 = .ok (.if_icmp .ge 36, 3) := by decide +kernel
theorem dX8_takeKey_8 : decode cX8_takeKey 8 = .ok (.aload_n 0, 1) := by decide +kernel
theorem dX8_takeKey_9 : decode cX8_takeKey 9 = .ok (.getfield 100, 3) := by decide +kernel
theorem dX8_takeKey_12 : decode cX8_takeKey 12 = .ok (.iload_n 2, 1) := by decide +kernel
theorem dX8_takeKey_13 : decode cX8_takeKey 13 = .ok (.iload_n 2, 1) := by decide +kernel
theorem dX8_takeKey_14 : decode cX8_takeKey 14 = .ok (.bipush 16, 2) := by decide +kernel
theorem dX8_takeKey_16 : decode cX8_takeKey 16 = .ok (.if_icmp .ge 17, 3) := by decide +kernel
theorem dX8_takeKey_19 : decode cX8_takeKey 19 = .ok (.aload_n 0, 1) := by decide +kernel
theorem dX8_takeKey_20 : decode cX8_takeKey 20 = .ok (.getfield 125, 3) := by decide +kernel
theorem dX8_takeKey_23 : decode cX8_takeKey 23 = .ok (.bipush 16, 2) := by decide +kernel
theorem dX8_takeKey_25 : decode cX8_takeKey 25 = .ok (.iload_n 1, 1) := by decide +kernel
theorem dX8_takeKey_26 : decode cX8_takeKey 26 = .ok (.imul, 1) := by decide +kernel
theorem dX8_takeKey_27 : decode cX8_takeKey 27 = .ok (.iload_n 2, 1) := by decide +kernel
theorem dX8_takeKey_28 : decode cX8_takeKey 28 = .ok (.iadd, 1) := by decide +kernel
theorem dX8_takeKey_29 : decode cX8_takeKey 29 = .ok (.iaload, 1) := by decide +kernel
theorem dX8_takeKey_30 : decode cX8_takeKey 30 = .ok (.goto 4, 3) := by decide +kernel
theorem dX8_takeKey_33 : decode cX8_takeKey 33 = .ok (.iconst 0, 1) := by decide +kernel
theorem dX8_takeKey_34 : decode cX8_takeKey 34 = .ok (.iastore, 1) := by decide +kernel
theorem dX8_takeKey_35 : decode cX8_takeKey 35 = .ok (.iinc 2 1, 3) := by decide +kernel
theorem dX8_takeKey_38 : decode cX8_takeKey 38 = .ok (.goto (-36), 3) := by decide +kernel
theorem dX8_takeKey_41 : decode cX8_takeKey 41 = .ok (.return_, 1) := by decide +kernel
theorem dX8_newId_0 : decode cX8_newId 0 = .ok (.iconst 0, 1) := by decide +kernel
theorem dX8_newId_1 : decode cX8_newId 1 = .ok (.istore_n 1, 1) := by decide +kernel
theorem dX8_newId_2 : decode cX8_newId 2 = .ok (.iload_n 1, 1) := by decide +kernel
theorem dX8_newId_3 : decode cX8_newId 3 = .ok (.bipush 64, 2) := by decide +kernel
theorem dX8_newId_5 : decode cX8_newId 5 = .ok (.if_icmp .ge 42, 3) := by decide +kernel
theorem dX8_newId_8 : decode cX8_newId 8 = .ok (.aload_n 0, 1) := by decide +kernel
theorem dX8_newId_9 : decode cX8_newId 9 = .ok (.getfield 100, 3) := by decide +kernel
theorem dX8_newId_12 : decode cX8_newId 12 = .ok (.iload_n 1, 1) := by decide +kernel
theorem dX8_newId_13 : decode cX8_newId 13 = .ok (.iload_n 1, 1) := by decide +kernel
theorem dX8_newId_14 : decode cX8_newId 14 = .ok (.bipush 8, 2) := by decide +kernel
theorem dX8_newId_16 : decode cX8_newId 16 = .ok (.if_icmp .ge 23, 3) := by decide +kernel
theorem dX8_newId_19 : decode cX8_newId 19 = .ok (.aload_n 0, 1) := by decide +kernel
theorem dX8_newId_20 : decode cX8_newId 20 = .ok (.getfield 186, 3) := by decide +kernel
theorem dX8_newId_23 : decode cX8_newId 23 = .ok (.bipush 56, 2) := by decide +kernel
theorem dX8_newId_25 : decode cX8_newId 25 = .ok (.bipush 8, 2) := by decide +kernel
theorem dX8_newId_27 : decode cX8_newId 27 = .ok (.iload_n 1, 1) := by decide +kernel
theorem dX8_newId_28 : decode cX8_newId 28 = .ok (.imul, 1) := by decide +kernel
theorem dX8_newId_29 : decode cX8_newId 29 = .ok (.isub, 1) := by decide +kernel
theorem dX8_newId_30 : decode cX8_newId 30 = .ok (.lshr, 1) := by decide +kernel
theorem dX8_newId_31 : decode cX8_newId 31 = .ok (.ldc2_w 189, 3) := by decide +kernel
theorem dX8_newId_34 : decode cX8_newId 34 = .ok (.land, 1) := by decide +kernel
theorem dX8_newId_35 : decode cX8_newId 35 = .ok (.l2i, 1) := by decide +kernel
theorem dX8_newId_36 : decode cX8_newId 36 = .ok (.goto 4, 3) := by decide +kernel
theorem dX8_newId_39 : decode cX8_newId 39 = .ok (.iconst 0, 1) := by decide +kernel
theorem dX8_newId_40 : decode cX8_newId 40 = .ok (.iastore, 1) := by decide +kernel
theorem dX8_newId_41 : decode cX8_newId 41 = .ok (.iinc 1 1, 3) := by decide +kernel
theorem dX8_newId_44 : decode cX8_newId 44 = .ok (.goto (-42), 3) := by decide +kernel
theorem dX8_newId_47 : decode cX8_newId 47 = .ok (.aload_n 0, 1) := by decide +kernel
theorem dX8_newId_48 : decode cX8_newId 48 = .ok (.iconst 0, 1) := by decide +kernel
theorem dX8_newId_49 : decode cX8_newId 49 = .ok (.putfield 180, 3) := by decide +kernel
theorem dX8_newId_52 : decode cX8_newId 52 = .ok (.iconst 0, 1) := by decide +kernel
theorem dX8_newId_53 : decode cX8_newId 53 = .ok (.istore_n 1, 1) := by decide +kernel
theorem dX8_newId_54 : decode cX8_newId 54 = .ok (.iload_n 1, 1) := by decide +kernel
theorem dX8_newId_55 : decode cX8_newId 55 = .ok (.bipush 8, 2) := by decide +kernel
theorem dX8_newId_57 : decode cX8_newId 57 = .ok (.if_icmp .ge 26, 3) := by decide +kernel
theorem dX8_newId_60 : decode cX8_newId 60 = .ok (.aload_n 0, 1) := by decide +kernel
theorem dX8_newId_61 : decode cX8_newId 61 = .ok (.aload_n 0, 1) := by decide +kernel
theorem dX8_newId_62 : decode cX8_newId 62 = .ok (.getfield 191, 3) := by decide +kernel
theorem dX8_newId_65 : decode cX8_newId 65 = .ok (.bipush 56, 2) := by decide +kernel
theorem dX8_newId_67 : decode cX8_newId 67 = .ok (.bipush 8, 2) := by decide +kernel
theorem dX8_newId_69 : decode cX8_newId 69 = .ok (.iload_n 1, 1) := by decide +kernel
theorem dX8_newId_70 : decode cX8_newId 70 = .ok (.imul, 1) := by decide +kernel
theorem dX8_newId_71 : decode cX8_newId 71 = .ok (.isub, 1) := by decide +kernel
theorem dX8_newId_72 : decode cX8_newId 72 = .ok (.lshr, 1) := by decide +kernel
theorem dX8_newId_73 : decode cX8_newId 73 = .ok (.l2i, 1) := by decide +kernel
theorem dX8_newId_74 : decode cX8_newId 74 = .ok (.invokevirtual 194, 3) := by decide +kernel
theorem dX8_newId_77 : decode cX8_newId 77 = .ok (.iinc 1 1, 3) := by decide +kernel
theorem dX8_newId_80 : decode cX8_newId 80 = .ok (.goto (-26), 3) := by decide +kernel
theorem dX8_newId_83 : decode cX8_newId 83 = .ok (.aload_n 0, 1) := by decide +kernel
theorem dX8_newId_84 : decode cX8_newId 84 = .ok (.invokevirtual 197, 3) := by decide +kernel
theorem dX8_newId_87 : decode cX8_newId 87 = .ok (.lconst 0, 1) := by decide +kernel
theorem dX8_newId_88 : decode cX8_newId 88 = .ok (.lstore_n 1, 1) := by decide +kernel
theorem dX8_newId_89 : decode cX8_newId 89 = .ok (.iconst 0, 1) := by decide +kernel
theorem dX8_newId_90 : decode cX8_newId 90 = .ok (.istore_n 3, 1) := by decide +kernel
theorem dX8_newId_91 : decode cX8_newId 91 = .ok (.iload_n 3, 1) := by decide +kernel
theorem dX8_newId_92 : decode cX8_newId 92 = .ok (.bipush 8, 2) := by decide +kernel
theorem dX8_newId_94 : decode cX8_newId 94 = .ok (.if_icmp .ge 22, 3) := by decide +kernel
theorem dX8_newId_97 : decode cX8_newId 97 = .ok (.lload_n 1, 1) := by decide +kernel
theorem dX8_newId_98 : decode cX8_newId 98 = .ok (.bipush 8, 2) := by decide +kernel
theorem dX8_newId_100 : decode cX8_newId 100 = .ok (.lshl, 1) := by decide +kernel
theorem dX8_newId_101 : decode cX8_newId 101 = .ok (.aload_n 0, 1) := by decide +kernel
theorem dX8_newId_102 : decode cX8_newId 102 = .ok (.getfield 97, 3) := by decide +kernel
theorem dX8_newId_105 : decode cX8_newId 105 = .ok (.iload_n 3, 1) := by decide +kernel
theorem dX8_newId_106 : decode cX8_newId 106 = .ok (.iaload, 1) := by decide +kernel
theorem dX8_newId_107 : decode cX8_newId 107 = .ok (.i2l, 1) := by decide +kernel
theorem dX8_newId_108 : decode cX8_newId 108 = .ok (.lor, 1) := by decide +kernel
theorem dX8_newId_109 : decode cX8_newId 109 = .ok (.lstore_n 1, 1) := by decide +kernel
theorem dX8_newId_110 : decode cX8_newId 110 = .ok (.iinc 3 1, 3) := by decide +kernel
theorem dX8_newId_113 : decode cX8_newId 113 = .ok (.goto (-22), 3) := by decide +kernel
theorem dX8_newId_116 : decode cX8_newId 116 = .ok (.lload_n 1, 1) := by decide +kernel
theorem dX8_newId_117 : decode cX8_newId 117 = .ok (.lreturn, 1) := by decide +kernel
theorem dX8_signOf_0 : decode cX8_signOf 0 = .ok (.iload_n 0, 1) := by decide +kernel
theorem dX8_signOf_1 : decode cX8_signOf 1 = .ok (.bipush 26, 2) := by decide +kernel
theorem dX8_signOf_3 : decode cX8_signOf 3 = .ok (.if_icmp .ge 10, 3) := by decide +kernel
theorem dX8_signOf_6 : decode cX8_signOf 6 = .ok (.bipush 65, 2) := by decide +kernel
theorem dX8_signOf_8 : decode cX8_signOf 8 = .ok (.iload_n 0, 1) := by decide +kernel
theorem dX8_signOf_9 : decode cX8_signOf 9 = .ok (.iadd, 1) := by decide +kernel
theorem dX8_signOf_10 : decode cX8_signOf 10 = .ok (.goto 48, 3) := by decide +kernel
theorem dX8_signOf_13 : decode cX8_signOf 13 = .ok (.iload_n 0, 1) := by decide +kernel
theorem dX8_signOf_14 : decode cX8_signOf 14 = .ok (.bipush 52, 2) := by decide +kernel
theorem dX8_signOf_16 : decode cX8_signOf 16 = .ok (.if_icmp .ge 13, 3) := by decide +kernel
theorem dX8_signOf_19 : decode cX8_signOf 19 = .ok (.bipush 97, 2) := by decide +kernel
theorem dX8_signOf_21 : decode cX8_signOf 21 = .ok (.iload_n 0, 1) := by decide +kernel
theorem dX8_signOf_22 : decode cX8_signOf 22 = .ok (.iadd, 1) := by decide +kernel
theorem dX8_signOf_23 : decode cX8_signOf 23 = .ok (.bipush 26, 2) := by decide +kernel
theorem dX8_signOf_25 : decode cX8_signOf 25 = .ok (.isub, 1) := by decide +kernel
theorem dX8_signOf_26 : decode cX8_signOf 26 = .ok (.goto 32, 3) := by decide +kernel
theorem dX8_signOf_29 : decode cX8_signOf 29 = .ok (.iload_n 0, 1) := by decide +kernel
theorem dX8_signOf_30 : decode cX8_signOf 30 = .ok (.bipush 62, 2) := by decide +kernel
theorem dX8_signOf_32 : decode cX8_signOf 32 = .ok (.if_icmp .ge 13, 3) := by decide +kernel
theorem dX8_signOf_35 : decode cX8_signOf 35 = .ok (.bipush 48, 2) := by decide +kernel
theorem dX8_signOf_37 : decode cX8_signOf 37 = .ok (.iload_n 0, 1) := by decide +kernel
theorem dX8_signOf_38 : decode cX8_signOf 38 = .ok (.iadd, 1) := by decide +kernel
theorem dX8_signOf_39 : decode cX8_signOf 39 = .ok (.bipush 52, 2) := by decide +kernel
theorem dX8_signOf_41 : decode cX8_signOf 41 = .ok (.isub, 1) := by decide +kernel
theorem dX8_signOf_42 : decode cX8_signOf 42 = .ok (.goto 16, 3) := by decide +kernel
theorem dX8_signOf_45 : decode cX8_signOf 45 = .ok (.iload_n 0, 1) := by decide +kernel
theorem dX8_signOf_46 : decode cX8_signOf 46 = .ok (.bipush 62, 2) := by decide +kernel
theorem dX8_signOf_48 : decode cX8_signOf 48 = .ok (.if_icmp .ne 8, 3) := by decide +kernel
theorem dX8_signOf_51 : decode cX8_signOf 51 = .ok (.bipush 45, 2) := by decide +kernel
theorem dX8_signOf_53 : decode cX8_signOf 53 = .ok (.goto 5, 3) := by decide +kernel
theorem dX8_signOf_56 : decode cX8_signOf 56 = .ok (.bipush 95, 2) := by decide +kernel
theorem dX8_signOf_58 : decode cX8_signOf 58 = .ok (.ireturn, 1) := by decide +kernel
theorem dX8_valueOf_0 : decode cX8_valueOf 0 = .ok (.iload_n 0, 1) := by decide +kernel
theorem dX8_valueOf_1 : decode cX8_valueOf 1 = .ok (.bipush 65, 2) := by decide +kernel
theorem dX8_valueOf_3 : decode cX8_valueOf 3 = .ok (.if_icmp .lt 16, 3) := by decide +kernel
theorem dX8_valueOf_6 : decode cX8_valueOf 6 = .ok (.iload_n 0, 1) := by decide +kernel
theorem dX8_valueOf_7 : decode cX8_valueOf 7 = .ok (.bipush 90, 2) := by decide +kernel
theorem dX8_valueOf_9 : decode cX8_valueOf 9 = .ok (.if_icmp .gt 10, 3) := by decide +kernel
theorem dX8_valueOf_12 : decode cX8_valueOf 12 = .ok (.iload_n 0, 1) := by decide +kernel
theorem dX8_valueOf_13 : decode cX8_valueOf 13 = .ok (.bipush 65, 2) := by decide +kernel
theorem dX8_valueOf_15 : decode cX8_valueOf 15 = .ok (.isub, 1) := by decide +kernel
theorem dX8_valueOf_16 : decode cX8_valueOf 16 = .ok (.goto 70, 3) := by decide +kernel
theorem dX8_valueOf_19 : decode cX8_valueOf 19 = .ok (.iload_n 0, 1) := by decide +kernel
theorem dX8_valueOf_20 : decode cX8_valueOf 20 = .ok (.bipush 97, 2) := by decide +kernel
theorem dX8_valueOf_22 : decode cX8_valueOf 22 = .ok (.if_icmp .lt 19, 3) := by decide +kernel
theorem dX8_valueOf_25 : decode cX8_valueOf 25 = .ok (.iload_n 0, 1) := by decide +kernel
theorem dX8_valueOf_26 : decode cX8_valueOf 26 = .ok (.bipush 122, 2) := by decide +kernel
theorem dX8_valueOf_28 : decode cX8_valueOf 28 = .ok (.if_icmp .gt 13, 3) := by decide +kernel
theorem dX8_valueOf_31 : decode cX8_valueOf 31 = .ok (.iload_n 0, 1) := by decide +kernel
theorem dX8_valueOf_32 : decode cX8_valueOf 32 = .ok (.bipush 97, 2) := by decide +kernel
theorem dX8_valueOf_34 : decode cX8_valueOf 34 = .ok (.isub, 1) := by decide +kernel
theorem dX8_valueOf_35 : decode cX8_valueOf 35 = .ok (.bipush 26, 2) := by decide +kernel
theorem dX8_valueOf_37 : decode cX8_valueOf 37 = .ok (.iadd, 1) := by decide +kernel
theorem dX8_valueOf_38 : decode cX8_valueOf 38 = .ok (.goto 48, 3) := by decide +kernel
theorem dX8_valueOf_41 : decode cX8_valueOf 41 = .ok (.iload_n 0, 1) := by decide +kernel
theorem dX8_valueOf_42 : decode cX8_valueOf 42 = .ok (.bipush 48, 2) := by decide +kernel
theorem dX8_valueOf_44 : decode cX8_valueOf 44 = .ok (.if_icmp .lt 19, 3) := by decide +kernel
theorem dX8_valueOf_47 : decode cX8_valueOf 47 = .ok (.iload_n 0, 1) := by decide +kernel
theorem dX8_valueOf_48 : decode cX8_valueOf 48 = .ok (.bipush 57, 2) := by decide +kernel
theorem dX8_valueOf_50 : decode cX8_valueOf 50 = .ok (.if_icmp .gt 13, 3) := by decide +kernel
theorem dX8_valueOf_53 : decode cX8_valueOf 53 = .ok (.iload_n 0, 1) := by decide +kernel
theorem dX8_valueOf_54 : decode cX8_valueOf 54 = .ok (.bipush 48, 2) := by decide +kernel
theorem dX8_valueOf_56 : decode cX8_valueOf 56 = .ok (.isub, 1) := by decide +kernel
theorem dX8_valueOf_57 : decode cX8_valueOf 57 = .ok (.bipush 52, 2) := by decide +kernel
theorem dX8_valueOf_59 : decode cX8_valueOf 59 = .ok (.iadd, 1) := by decide +kernel
theorem dX8_valueOf_60 : decode cX8_valueOf 60 = .ok (.goto 26, 3) := by decide +kernel
theorem dX8_valueOf_63 : decode cX8_valueOf 63 = .ok (.iload_n 0, 1) := by decide +kernel
theorem dX8_valueOf_64 : decode cX8_valueOf 64 = .ok (.bipush 45, 2) := by decide +kernel
theorem dX8_valueOf_66 : decode cX8_valueOf 66 = .ok (.if_icmp .ne 8, 3) := by decide +kernel
theorem dX8_valueOf_69 : decode cX8_valueOf 69 = .ok (.bipush 62, 2) := by decide +kernel
theorem dX8_valueOf_71 : decode cX8_valueOf 71 = .ok (.goto 15, 3) := by decide +kernel
theorem dX8_valueOf_74 : decode cX8_valueOf 74 = .ok (.iload_n 0, 1) := by decide +kernel
theorem dX8_valueOf_75 : decode cX8_valueOf 75 = .ok (.bipush 95, 2) := by decide +kernel
theorem dX8_valueOf_77 : decode cX8_valueOf 77 = .ok (.if_icmp .ne 8, 3) := by decide +kernel
theorem dX8_valueOf_80 : decode cX8_valueOf 80 = .ok (.bipush 63, 2) := by decide +kernel
theorem dX8_valueOf_82 : decode cX8_valueOf 82 = .ok (.goto 4, 3) := by decide +kernel
theorem dX8_valueOf_85 : decode cX8_valueOf 85 = .ok (.iconst (-1), 1) := by decide +kernel
theorem dX8_valueOf_86 : decode cX8_valueOf 86 = .ok (.ireturn, 1) := by decide +kernel
theorem dX8_codedAt_0 : decode cX8_codedAt 0 = .ok (.iconst 0, 1) := by decide +kernel
theorem dX8_codedAt_1 : decode cX8_codedAt 1 = .ok (.istore_n 3, 1) := by decide +kernel
theorem dX8_codedAt_2 : decode cX8_codedAt 2 = .ok (.bipush 6, 2) := by decide +kernel
theorem dX8_codedAt_4 : decode cX8_codedAt 4 = .ok (.iload_n 1, 1) := by decide +kernel
theorem dX8_codedAt_5 : decode cX8_codedAt 5 = .ok (.imul, 1) := by decide +kernel
theorem dX8_codedAt_6 : decode cX8_codedAt 6 = .ok (.istore 4, 2) := by decide +kernel
theorem dX8_codedAt_8 : decode cX8_codedAt 8 = .ok (.iload 4, 2) := by decide +kernel
theorem dX8_codedAt_10 : decode cX8_codedAt 10 = .ok (.bipush 6, 2) := by decide +kernel
theorem dX8_codedAt_12 : decode cX8_codedAt 12 = .ok (.iload_n 1, 1) := by decide +kernel
theorem dX8_codedAt_13 : decode cX8_codedAt 13 = .ok (.imul, 1) := by decide +kernel
theorem dX8_codedAt_14 : decode cX8_codedAt 14 = .ok (.bipush 6, 2) := by decide +kernel
theorem dX8_codedAt_16 : decode cX8_codedAt 16 = .ok (.iadd, 1) := by decide +kernel
theorem dX8_codedAt_17 : decode cX8_codedAt 17 = .ok (.if_icmp .ge 48, 3) := by decide +kernel
theorem dX8_codedAt_20 : decode cX8_codedAt 20 = .ok (.iconst 2, 1) := by decide +kernel
theorem dX8_codedAt_21 : decode cX8_codedAt 21 = .ok (.iload_n 3, 1) := by decide +kernel
theorem dX8_codedAt_22 : decode cX8_codedAt 22 = .ok (.imul, 1) := by decide +kernel
theorem dX8_codedAt_23 : decode cX8_codedAt 23 = .ok (.iload 4, 2) := by decide +kernel
theorem dX8_codedAt_25 : decode cX8_codedAt 25 = .ok (.bipush 8, 2) := by decide +kernel
theorem dX8_codedAt_27 : decode cX8_codedAt 27 = .ok (.iload_n 2, 1) := by decide +kernel
theorem dX8_codedAt_28 : decode cX8_codedAt 28 = .ok (.imul, 1) := by decide +kernel
theorem dX8_codedAt_29 : decode cX8_codedAt 29 = .ok (.if_icmp .ge 27, 3) := by decide +kernel
theorem dX8_codedAt_32 : decode cX8_codedAt 32 = .ok (.aload_n 0, 1) := by decide +kernel
theorem dX8_codedAt_33 : decode cX8_codedAt 33 = .ok (.getfield 163, 3) := by decide +kernel
theorem dX8_codedAt_36 : decode cX8_codedAt 36 = .ok (.iload 4, 2) := by decide +kernel
theorem dX8_codedAt_38 : decode cX8_codedAt 38 = .ok (.bipush 8, 2) := by decide +kernel
theorem dX8_codedAt_40 : decode cX8_codedAt 40 = .ok (.idiv, 1) := by decide +kernel
theorem dX8_codedAt_41 : decode cX8_codedAt 41 = .ok (.iaload, 1) := by decide +kernel
theorem dX8_codedAt_42 : decode cX8_codedAt 42 = .ok (.bipush 7, 2) := by decide +kernel
theorem dX8_codedAt_44 : decode cX8_codedAt 44 = .ok (.iload 4, 2) := by decide +kernel
theorem dX8_codedAt_46 : decode cX8_codedAt 46 = .ok (.bipush 8, 2) := by decide +kernel
theorem dX8_codedAt_48 : decode cX8_codedAt 48 = .ok (.irem, 1) := by decide +kernel
theorem dX8_codedAt_49 : decode cX8_codedAt 49 = .ok (.isub, 1) := by decide +kernel
theorem dX8_codedAt_50 : decode cX8_codedAt 50 = .ok (.ishr, 1) := by decide +kernel
theorem dX8_codedAt_51 : decode cX8_codedAt 51 = .ok (.iconst 1, 1) := by decide +kernel
theorem dX8_codedAt_52 : decode cX8_codedAt 52 = .ok (.iand, 1) := by decide +kernel
theorem dX8_codedAt_53 : decode cX8_codedAt 53 = .ok (.goto 4, 3) := by decide +kernel
theorem dX8_codedAt_56 : decode cX8_codedAt 56 = .ok (.iconst 0, 1) := by decide +kernel
theorem dX8_codedAt_57 : decode cX8_codedAt 57 = .ok (.iadd, 1) := by decide +kernel
theorem dX8_codedAt_58 : decode cX8_codedAt 58 = .ok (.istore_n 3, 1) := by decide +kernel
theorem dX8_codedAt_59 : decode cX8_codedAt 59 = .ok (.iinc 4 1, 3) := by decide +kernel
theorem dX8_codedAt_62 : decode cX8_codedAt 62 = .ok (.goto (-54), 3) := by decide +kernel
theorem dX8_codedAt_65 : decode cX8_codedAt 65 = .ok (.iload_n 3, 1) := by decide +kernel
theorem dX8_codedAt_66 : decode cX8_codedAt 66 = .ok (.invokestatic 200, 3) := by decide +kernel
theorem dX8_codedAt_69 : decode cX8_codedAt 69 = .ok (.ireturn, 1) := by decide +kernel
theorem dX8_body_0 : decode cX8_body 0 = .ok (.aload_n 0, 1) := by decide +kernel
theorem dX8_body_1 : decode cX8_body 1 = .ok (.getfield 163, 3) := by decide +kernel
theorem dX8_body_4 : decode cX8_body 4 = .ok (.iconst 0, 1) := by decide +kernel
theorem dX8_body_5 : decode cX8_body 5 = .ok (.iload_n 1, 1) := by decide +kernel
theorem dX8_body_6 : decode cX8_body 6 = .ok (.iastore, 1) := by decide +kernel
theorem dX8_body_7 : decode cX8_body 7 = .ok (.aload_n 0, 1) := by decide +kernel
theorem dX8_body_8 : decode cX8_body 8 = .ok (.getfield 163, 3) := by decide +kernel
theorem dX8_body_11 : decode cX8_body 11 = .ok (.iconst 1, 1) := by decide +kernel
theorem dX8_body_12 : decode cX8_body 12 = .ok (.iload_n 2, 1) := by decide +kernel
theorem dX8_body_13 : decode cX8_body 13 = .ok (.iastore, 1) := by decide +kernel
theorem dX8_body_14 : decode cX8_body 14 = .ok (.iconst 0, 1) := by decide +kernel
theorem dX8_body_15 : decode cX8_body 15 = .ok (.istore 5, 2) := by decide +kernel
theorem dX8_body_17 : decode cX8_body 17 = .ok (.iload 5, 2) := by decide +kernel
theorem dX8_body_19 : decode cX8_body 19 = .ok (.bipush 8, 2) := by decide +kernel
theorem dX8_body_21 : decode cX8_body 21 = .ok (.if_icmp .ge 33, 3) := by decide +kernel
theorem dX8_body_24 : decode cX8_body 24 = .ok (.aload_n 0, 1) := by decide +kernel
theorem dX8_body_25 : decode cX8_body 25 = .ok (.getfield 163, 3) := by decide +kernel
theorem dX8_body_28 : decode cX8_body 28 = .ok (.iconst 2, 1) := by decide +kernel
theorem dX8_body_29 : decode cX8_body 29 = .ok (.iload 5, 2) := by decide +kernel
theorem dX8_body_31 : decode cX8_body 31 = .ok (.iadd, 1) := by decide +kernel
theorem dX8_body_32 : decode cX8_body 32 = .ok (.lload_n 3, 1) := by decide +kernel
theorem dX8_body_33 : decode cX8_body 33 = .ok (.bipush 56, 2) := by decide +kernel
theorem dX8_body_35 : decode cX8_body 35 = .ok (.bipush 8, 2) := by decide +kernel
theorem dX8_body_37 : decode cX8_body 37 = .ok (.iload 5, 2) := by decide +kernel
theorem dX8_body_39 : decode cX8_body 39 = .ok (.imul, 1) := by decide +kernel
theorem dX8_body_40 : decode cX8_body 40 = .ok (.isub, 1) := by decide +kernel
theorem dX8_body_41 : decode cX8_body 41 = .ok (.lshr, 1) := by decide +kernel
theorem dX8_body_42 : decode cX8_body 42 = .ok (.ldc2_w 189, 3) := by decide +kernel
theorem dX8_body_45 : decode cX8_body 45 = .ok (.land, 1) := by decide +kernel
theorem dX8_body_46 : decode cX8_body 46 = .ok (.l2i, 1) := by decide +kernel
theorem dX8_body_47 : decode cX8_body 47 = .ok (.iastore, 1) := by decide +kernel
theorem dX8_body_48 : decode cX8_body 48 = .ok (.iinc 5 1, 3) := by decide +kernel
theorem dX8_body_51 : decode cX8_body 51 = .ok (.goto (-34), 3) := by decide +kernel
theorem dX8_body_54 : decode cX8_body 54 = .ok (.return_, 1) := by decide +kernel
theorem dX8_sealBody_0 : decode cX8_sealBody 0 = .ok (.aload_n 0, 1) := by decide +kernel
theorem dX8_sealBody_1 : decode cX8_sealBody 1 = .ok (.iload_n 1, 1) := by decide +kernel
theorem dX8_sealBody_2 : decode cX8_sealBody 2 = .ok (.invokevirtual 204, 3) := by decide +kernel
theorem dX8_sealBody_5 : decode cX8_sealBody 5 = .ok (.aload_n 0, 1) := by decide +kernel
theorem dX8_sealBody_6 : decode cX8_sealBody 6 = .ok (.iconst 0, 1) := by decide +kernel
theorem dX8_sealBody_7 : decode cX8_sealBody 7 = .ok (.putfield 180, 3) := by decide +kernel
theorem dX8_sealBody_10 : decode cX8_sealBody 10 = .ok (.iload_n 2, 1) := by decide +kernel
theorem dX8_sealBody_11 : decode cX8_sealBody 11 = .ok (.ifCond .lt 8, 3) := by decide +kernel
theorem dX8_sealBody_14 : decode cX8_sealBody 14 = .ok (.aload_n 0, 1) := by decide +kernel
theorem dX8_sealBody_15 : decode cX8_sealBody 15 = .ok (.iload_n 2, 1) := by decide +kernel
theorem dX8_sealBody_16 : decode cX8_sealBody 16 = .ok (.invokevirtual 194, 3) := by decide +kernel
theorem dX8_sealBody_19 : decode cX8_sealBody 19 = .ok (.iconst 0, 1) := by decide +kernel
theorem dX8_sealBody_20 : decode cX8_sealBody 20 = .ok (.istore_n 3, 1) := by decide +kernel
theorem dX8_sealBody_21 : decode cX8_sealBody 21 = .ok (.iload_n 3, 1) := by decide +kernel
theorem dX8_sealBody_22 : decode cX8_sealBody 22 = .ok (.bipush 10, 2) := by decide +kernel
theorem dX8_sealBody_24 : decode cX8_sealBody 24 = .ok (.if_icmp .ge 19, 3) := by decide +kernel
theorem dX8_sealBody_27 : decode cX8_sealBody 27 = .ok (.aload_n 0, 1) := by decide +kernel
theorem dX8_sealBody_28 : decode cX8_sealBody 28 = .ok (.aload_n 0, 1) := by decide +kernel
theorem dX8_sealBody_29 : decode cX8_sealBody 29 = .ok (.getfield 163, 3) := by decide +kernel
theorem dX8_sealBody_32 : decode cX8_sealBody 32 = .ok (.iload_n 3, 1) := by decide +kernel
theorem dX8_sealBody_33 : decode cX8_sealBody 33 = .ok (.iaload, 1) := by decide +kernel
theorem dX8_sealBody_34 : decode cX8_sealBody 34 = .ok (.invokevirtual 194, 3) := by decide +kernel
theorem dX8_sealBody_37 : decode cX8_sealBody 37 = .ok (.iinc 3 1, 3) := by decide +kernel
theorem dX8_sealBody_40 : decode cX8_sealBody 40 = .ok (.goto (-19), 3) := by decide +kernel
theorem dX8_sealBody_43 : decode cX8_sealBody 43 = .ok (.aload_n 0, 1) := by decide +kernel
theorem dX8_sealBody_44 : decode cX8_sealBody 44 = .ok (.invokevirtual 197, 3) := by decide +kernel
theorem dX8_sealBody_47 : decode cX8_sealBody 47 = .ok (.return_, 1) := by decide +kernel
theorem dX8_token_0 : decode cX8_token 0 = .ok (.aload_n 0, 1) := by decide +kernel
theorem dX8_token_1 : decode cX8_token 1 = .ok (.iload_n 1, 1) := by decide +kernel
theorem dX8_token_2 : decode cX8_token 2 = .ok (.bipush 84, 2) := by decide +kernel
theorem dX8_token_4 : decode cX8_token 4 = .ok (.invokevirtual 207, 3) := by decide +kernel
theorem dX8_token_7 : decode cX8_token 7 = .ok (.iconst 0, 1) := by decide +kernel
theorem dX8_token_8 : decode cX8_token 8 = .ok (.istore_n 2, 1) := by decide +kernel
theorem dX8_token_9 : decode cX8_token 9 = .ok (.iload_n 2, 1) := by decide +kernel
theorem dX8_token_10 : decode cX8_token 10 = .ok (.bipush 9, 2) := by decide +kernel
theorem dX8_token_12 : decode cX8_token 12 = .ok (.if_icmp .ge 21, 3) := by decide +kernel
theorem dX8_token_15 : decode cX8_token 15 = .ok (.aload_n 0, 1) := by decide +kernel
theorem dX8_token_16 : decode cX8_token 16 = .ok (.getfield 163, 3) := by decide +kernel
theorem dX8_token_19 : decode cX8_token 19 = .ok (.iload_n 2, 1) := by decide +kernel
theorem dX8_token_20 : decode cX8_token 20 = .ok (.aload_n 0, 1) := by decide +kernel
theorem dX8_token_21 : decode cX8_token 21 = .ok (.getfield 97, 3) := by decide +kernel
theorem dX8_token_24 : decode cX8_token 24 = .ok (.iload_n 2, 1) := by decide +kernel
theorem dX8_token_25 : decode cX8_token 25 = .ok (.iaload, 1) := by decide +kernel
theorem dX8_token_26 : decode cX8_token 26 = .ok (.iastore, 1) := by decide +kernel
theorem dX8_token_27 : decode cX8_token 27 = .ok (.iinc 2 1, 3) := by decide +kernel
theorem dX8_token_30 : decode cX8_token 30 = .ok (.goto (-21), 3) := by decide +kernel
theorem dX8_token_33 : decode cX8_token 33 = .ok (.return_, 1) := by decide +kernel
theorem dX8_issue_0 : decode cX8_issue 0 = .ok (.aload_n 0, 1) := by decide +kernel
theorem dX8_issue_1 : decode cX8_issue 1 = .ok (.getfield 118, 3) := by decide +kernel
theorem dX8_issue_4 : decode cX8_issue 4 = .ok (.iconst 1, 1) := by decide +kernel
theorem dX8_issue_5 : decode cX8_issue 5 = .ok (.isub, 1) := by decide +kernel
theorem dX8_issue_6 : decode cX8_issue 6 = .ok (.istore_n 2, 1) := by decide +kernel
theorem dX8_issue_7 : decode cX8_issue 7 = .ok (.aload_n 0, 1) := by decide +kernel
theorem dX8_issue_8 : decode cX8_issue 8 = .ok (.aload_n 0, 1) := by decide +kernel
theorem dX8_issue_9 : decode cX8_issue 9 = .ok (.getfield 122, 3) := by decide +kernel
theorem dX8_issue_12 : decode cX8_issue 12 = .ok (.iload_n 2, 1) := by decide +kernel
theorem dX8_issue_13 : decode cX8_issue 13 = .ok (.iaload, 1) := by decide +kernel
theorem dX8_issue_14 : decode cX8_issue 14 = .ok (.aload_n 0, 1) := by decide +kernel
theorem dX8_issue_15 : decode cX8_issue 15 = .ok (.getfield 145, 3) := by decide +kernel
theorem dX8_issue_18 : decode cX8_issue 18 = .ok (.iload_n 1, 1) := by decide +kernel
theorem dX8_issue_19 : decode cX8_issue 19 = .ok (.iaload, 1) := by decide +kernel
theorem dX8_issue_20 : decode cX8_issue 20 = .ok (.aload_n 0, 1) := by decide +kernel
theorem dX8_issue_21 : decode cX8_issue 21 = .ok (.getfield 148, 3) := by decide +kernel
theorem dX8_issue_24 : decode cX8_issue 24 = .ok (.iload_n 1, 1) := by decide +kernel
theorem dX8_issue_25 : decode cX8_issue 25 = .ok (.laload, 1) := by decide +kernel
theorem dX8_issue_26 : decode cX8_issue 26 = .ok (.invokevirtual 211, 3) := by decide +kernel
theorem dX8_issue_29 : decode cX8_issue 29 = .ok (.aload_n 0, 1) := by decide +kernel
theorem dX8_issue_30 : decode cX8_issue 30 = .ok (.iload_n 2, 1) := by decide +kernel
theorem dX8_issue_31 : decode cX8_issue 31 = .ok (.iconst (-1), 1) := by decide +kernel
theorem dX8_issue_32 : decode cX8_issue 32 = .ok (.invokevirtual 207, 3) := by decide +kernel
theorem dX8_issue_35 : decode cX8_issue 35 = .ok (.iconst 0, 1) := by decide +kernel
theorem dX8_issue_36 : decode cX8_issue 36 = .ok (.istore_n 3, 1) := by decide +kernel
theorem dX8_issue_37 : decode cX8_issue 37 = .ok (.iload_n 3, 1) := by decide +kernel
theorem dX8_issue_38 : decode cX8_issue 38 = .ok (.bipush 12, 2) := by decide +kernel
theorem dX8_issue_40 : decode cX8_issue 40 = .ok (.if_icmp .ge 24, 3) := by decide +kernel
theorem dX8_issue_43 : decode cX8_issue 43 = .ok (.aload_n 0, 1) := by decide +kernel
theorem dX8_issue_44 : decode cX8_issue 44 = .ok (.getfield 163, 3) := by decide +kernel
theorem dX8_issue_47 : decode cX8_issue 47 = .ok (.bipush 10, 2) := by decide +kernel
theorem dX8_issue_49 : decode cX8_issue 49 = .ok (.iload_n 3, 1) := by decide +kernel
theorem dX8_issue_50 : decode cX8_issue 50 = .ok (.iadd, 1) := by decide +kernel
theorem dX8_issue_51 : decode cX8_issue 51 = .ok (.aload_n 0, 1) := by decide +kernel
theorem dX8_issue_52 : decode cX8_issue 52 = .ok (.getfield 97, 3) := by decide +kernel
theorem dX8_issue_55 : decode cX8_issue 55 = .ok (.iload_n 3, 1) := by decide +kernel
theorem dX8_issue_56 : decode cX8_issue 56 = .ok (.iaload, 1) := by decide +kernel
theorem dX8_issue_57 : decode cX8_issue 57 = .ok (.iastore, 1) := by decide +kernel
theorem dX8_issue_58 : decode cX8_issue 58 = .ok (.iinc 3 1, 3) := by decide +kernel
theorem dX8_issue_61 : decode cX8_issue 61 = .ok (.goto (-24), 3) := by decide +kernel
theorem dX8_issue_64 : decode cX8_issue 64 = .ok (.iconst 0, 1) := by decide +kernel
theorem dX8_issue_65 : decode cX8_issue 65 = .ok (.istore_n 3, 1) := by decide +kernel
theorem dX8_issue_66 : decode cX8_issue 66 = .ok (.iload_n 3, 1) := by decide +kernel
theorem dX8_issue_67 : decode cX8_issue 67 = .ok (.bipush 30, 2) := by decide +kernel
theorem dX8_issue_69 : decode cX8_issue 69 = .ok (.if_icmp .ge 22, 3) := by decide +kernel
theorem dX8_issue_72 : decode cX8_issue 72 = .ok (.aload_n 0, 1) := by decide +kernel
theorem dX8_issue_73 : decode cX8_issue 73 = .ok (.getfield 160, 3) := by decide +kernel
theorem dX8_issue_76 : decode cX8_issue 76 = .ok (.iload_n 3, 1) := by decide +kernel
theorem dX8_issue_77 : decode cX8_issue 77 = .ok (.aload_n 0, 1) := by decide +kernel
theorem dX8_issue_78 : decode cX8_issue 78 = .ok (.iload_n 3, 1) := by decide +kernel
theorem dX8_issue_79 : decode cX8_issue 79 = .ok (.bipush 22, 2) := by decide +kernel
theorem dX8_issue_81 : decode cX8_issue 81 = .ok (.invokevirtual 215, 3) := by decide +kernel
theorem dX8_issue_84 : decode cX8_issue 84 = .ok (.iastore, 1) := by decide +kernel
theorem dX8_issue_85 : decode cX8_issue 85 = .ok (.iinc 3 1, 3) := by decide +kernel
theorem dX8_issue_88 : decode cX8_issue 88 = .ok (.goto (-22), 3) := by decide +kernel
theorem dX8_issue_91 : decode cX8_issue 91 = .ok (.aload_n 0, 1) := by decide +kernel
theorem dX8_issue_92 : decode cX8_issue 92 = .ok (.getfield 157, 3) := by decide +kernel
theorem dX8_issue_95 : decode cX8_issue 95 = .ok (.iconst 0, 1) := by decide +kernel
theorem dX8_issue_96 : decode cX8_issue 96 = .ok (.bipush 30, 2) := by decide +kernel
theorem dX8_issue_98 : decode cX8_issue 98 = .ok (.iastore, 1) := by decide +kernel
theorem dX8_issue_99 : decode cX8_issue 99 = .ok (.aload_n 0, 1) := by decide +kernel
theorem dX8_issue_100 : decode cX8_issue 100 = .ok (.iload_n 2, 1) := by decide +kernel
theorem dX8_issue_101 : decode cX8_issue 101 = .ok (.invokevirtual 218, 3) := by decide +kernel
theorem dX8_issue_104 : decode cX8_issue 104 = .ok (.iconst 0, 1) := by decide +kernel
theorem dX8_issue_105 : decode cX8_issue 105 = .ok (.istore_n 3, 1) := by decide +kernel
theorem dX8_issue_106 : decode cX8_issue 106 = .ok (.iload_n 3, 1) := by decide +kernel
theorem dX8_issue_107 : decode cX8_issue 107 = .ok (.bipush 12, 2) := by decide +kernel
theorem dX8_issue_109 : decode cX8_issue 109 = .ok (.if_icmp .ge 25, 3) := by decide +kernel
theorem dX8_issue_112 : decode cX8_issue 112 = .ok (.aload_n 0, 1) := by decide +kernel
theorem dX8_issue_113 : decode cX8_issue 113 = .ok (.getfield 160, 3) := by decide +kernel
theorem dX8_issue_116 : decode cX8_issue 116 = .ok (.bipush 40, 2) := by decide +kernel
theorem dX8_issue_118 : decode cX8_issue 118 = .ok (.iload_n 3, 1) := by decide +kernel
theorem dX8_issue_119 : decode cX8_issue 119 = .ok (.iadd, 1) := by decide +kernel
theorem dX8_issue_120 : decode cX8_issue 120 = .ok (.aload_n 0, 1) := by decide +kernel
theorem dX8_issue_121 : decode cX8_issue 121 = .ok (.iload_n 3, 1) := by decide +kernel
theorem dX8_issue_122 : decode cX8_issue 122 = .ok (.bipush 9, 2) := by decide +kernel
theorem dX8_issue_124 : decode cX8_issue 124 = .ok (.invokevirtual 215, 3) := by decide +kernel
theorem dX8_issue_127 : decode cX8_issue 127 = .ok (.iastore, 1) := by decide +kernel
theorem dX8_issue_128 : decode cX8_issue 128 = .ok (.iinc 3 1, 3) := by decide +kernel
theorem dX8_issue_131 : decode cX8_issue 131 = .ok (.goto (-25), 3) := by decide +kernel
theorem dX8_issue_134 : decode cX8_issue 134 = .ok (.aload_n 0, 1) := by decide +kernel
theorem dX8_issue_135 : decode cX8_issue 135 = .ok (.getfield 157, 3) := by decide +kernel
theorem dX8_issue_138 : decode cX8_issue 138 = .ok (.iconst 1, 1) := by decide +kernel
theorem dX8_issue_139 : decode cX8_issue 139 = .ok (.bipush 12, 2) := by decide +kernel
theorem dX8_issue_141 : decode cX8_issue 141 = .ok (.iastore, 1) := by decide +kernel
theorem dX8_issue_142 : decode cX8_issue 142 = .ok (.return_, 1) := by decide +kernel
theorem dX8_seed_0 : decode cX8_seed 0 = .ok (.aload_n 0, 1) := by decide +kernel
theorem dX8_seed_1 : decode cX8_seed 1 = .ok (.iconst 0, 1) := by decide +kernel
theorem dX8_seed_2 : decode cX8_seed 2 = .ok (.putfield 166, 3) := by decide +kernel
theorem dX8_seed_5 : decode cX8_seed 5 = .ok (.aload_n 0, 1) := by decide +kernel
theorem dX8_seed_6 : decode cX8_seed 6 = .ok (.lload_n 1, 1) := by decide +kernel
theorem dX8_seed_7 : decode cX8_seed 7 = .ok (.putfield 186, 3) := by decide +kernel
theorem dX8_seed_10 : decode cX8_seed 10 = .ok (.aload_n 0, 1) := by decide +kernel
theorem dX8_seed_11 : decode cX8_seed 11 = .ok (.lconst 0, 1) := by decide +kernel
theorem dX8_seed_12 : decode cX8_seed 12 = .ok (.putfield 191, 3) := by decide +kernel
theorem dX8_seed_15 : decode cX8_seed 15 = .ok (.return_, 1) := by decide +kernel
theorem dX8_pass_0 : decode cX8_pass 0 = .ok (.aload_n 0, 1) := by decide +kernel
theorem dX8_pass_1 : decode cX8_pass 1 = .ok (.lload_n 1, 1) := by decide +kernel
theorem dX8_pass_2 : decode cX8_pass 2 = .ok (.lconst 1, 1) := by decide +kernel
theorem dX8_pass_3 : decode cX8_pass 3 = .ok (.ldc2_w 221, 3) := by decide +kernel
theorem dX8_pass_6 : decode cX8_pass 6 = .ok (.invokestatic 223, 3) := by decide +kernel
theorem dX8_pass_9 : decode cX8_pass 9 = .ok (.ifCond .eq 7, 3) := by decide +kernel
theorem dX8_pass_12 : decode cX8_pass 12 = .ok (.iconst 0, 1) := by decide +kernel
theorem dX8_pass_13 : decode cX8_pass 13 = .ok (.goto 4, 3) := by decide +kernel
theorem dX8_pass_16 : decode cX8_pass 16 = .ok (.iconst 1, 1) := by decide +kernel
theorem dX8_pass_17 : decode cX8_pass 17 = .ok (.invokevirtual 227, 3) := by decide +kernel
theorem dX8_pass_20 : decode cX8_pass 20 = .ok (.ifCond .eq 5, 3) := by decide +kernel
theorem dX8_pass_23 : decode cX8_pass 23 = .ok (.lconst 0, 1) := by decide +kernel
theorem dX8_pass_24 : decode cX8_pass 24 = .ok (.lreturn, 1) := by decide +kernel
theorem dX8_pass_25 : decode cX8_pass 25 = .ok (.aload_n 0, 1) := by decide +kernel
theorem dX8_pass_26 : decode cX8_pass 26 = .ok (.aload_n 0, 1) := by decide +kernel
theorem dX8_pass_27 : decode cX8_pass 27 = .ok (.getfield 231, 3) := by decide +kernel
theorem dX8_pass_30 : decode cX8_pass 30 = .ok (.lload_n 1, 1) := by decide +kernel
theorem dX8_pass_31 : decode cX8_pass 31 = .ok (.ladd, 1) := by decide +kernel
theorem dX8_pass_32 : decode cX8_pass 32 = .ok (.putfield 231, 3) := by decide +kernel
theorem dX8_pass_35 : decode cX8_pass 35 = .ok (.aload_n 0, 1) := by decide +kernel
theorem dX8_pass_36 : decode cX8_pass 36 = .ok (.getfield 231, 3) := by decide +kernel
theorem dX8_pass_39 : decode cX8_pass 39 = .ok (.lreturn, 1) := by decide +kernel
theorem dX8_limits_0 : decode cX8_limits 0 = .ok (.ldc2_w 234, 3) := by decide +kernel
theorem dX8_limits_3 : decode cX8_limits 3 = .ok (.lstore 7, 2) := by decide +kernel
theorem dX8_limits_5 : decode cX8_limits 5 = .ok (.aload_n 0, 1) := by decide +kernel
theorem dX8_limits_6 : decode cX8_limits 6 = .ok (.lload_n 1, 1) := by decide +kernel
theorem dX8_limits_7 : decode cX8_limits 7 = .ok (.lconst 1, 1) := by decide +kernel
theorem dX8_limits_8 : decode cX8_limits 8 = .ok (.lload 7, 2) := by decide +kernel
theorem dX8_limits_10 : decode cX8_limits 10 = .ok (.invokestatic 223, 3) := by decide +kernel
theorem dX8_limits_13 : decode cX8_limits 13 = .ok (.ifCond .eq 28, 3) := by decide +kernel
theorem dX8_limits_16 : decode cX8_limits 16 = .ok (.lload_n 3, 1) := by decide +kernel
theorem dX8_limits_17 : decode cX8_limits 17 = .ok (.lconst 1, 1) := by decide +kernel
theorem dX8_limits_18 : decode cX8_limits 18 = .ok (.lload 7, 2) := by decide +kernel
theorem dX8_limits_20 : decode cX8_limits 20 = .ok (.invokestatic 223, 3) := by decide +kernel
theorem dX8_limits_23 : decode cX8_limits 23 = .ok (.ifCond .eq 18, 3) := by decide +kernel
theorem dX8_limits_26 : decode cX8_limits 26 = .ok (.lload 5, 2) := by decide +kernel
theorem dX8_limits_28 : decode cX8_limits 28 = .ok (.lconst 1, 1) := by decide +kernel
theorem dX8_limits_29 : decode cX8_limits 29 = .ok (.lload 7, 2) := by decide +kernel
theorem dX8_limits_31 : decode cX8_limits 31 = .ok (.invokestatic 223, 3) := by decide +kernel
theorem dX8_limits_34 : decode cX8_limits 34 = .ok (.ifCond .eq 7, 3) := by decide +kernel
theorem dX8_limits_37 : decode cX8_limits 37 = .ok (.iconst 0, 1) := by decide +kernel
theorem dX8_limits_38 : decode cX8_limits 38 = .ok (.goto 4, 3) := by decide +kernel
theorem dX8_limits_41 : decode cX8_limits 41 = .ok (.iconst 1, 1) := by decide +kernel
theorem dX8_limits_42 : decode cX8_limits 42 = .ok (.invokevirtual 227, 3) := by decide +kernel
theorem dX8_limits_45 : decode cX8_limits 45 = .ok (.ifCond .eq 4, 3) := by decide +kernel
theorem dX8_limits_48 : decode cX8_limits 48 = .ok (.return_, 1) := by decide +kernel
theorem dX8_limits_49 : decode cX8_limits 49 = .ok (.aload_n 0, 1) := by decide +kernel
theorem dX8_limits_50 : decode cX8_limits 50 = .ok (.lload_n 1, 1) := by decide +kernel
theorem dX8_limits_51 : decode cX8_limits 51 = .ok (.putfield 108, 3) := by decide +kernel
theorem dX8_limits_54 : decode cX8_limits 54 = .ok (.aload_n 0, 1) := by decide +kernel
theorem dX8_limits_55 : decode cX8_limits 55 = .ok (.lload_n 3, 1) := by decide +kernel
theorem dX8_limits_56 : decode cX8_limits 56 = .ok (.putfield 112, 3) := by decide +kernel
theorem dX8_limits_59 : decode cX8_limits 59 = .ok (.aload_n 0, 1) := by decide +kernel
theorem dX8_limits_60 : decode cX8_limits 60 = .ok (.lload 5, 2) := by decide +kernel
theorem dX8_limits_62 : decode cX8_limits 62 = .ok (.putfield 115, 3) := by decide +kernel
theorem dX8_limits_65 : decode cX8_limits 65 = .ok (.return_, 1) := by decide +kernel
theorem dX8_isLive_0 : decode cX8_isLive 0 = .ok (.iload_n 1, 1) := by decide +kernel
theorem dX8_isLive_1 : decode cX8_isLive 1 = .ok (.aload_n 0, 1) := by decide +kernel
theorem dX8_isLive_2 : decode cX8_isLive 2 = .ok (.getfield 118, 3) := by decide +kernel
theorem dX8_isLive_5 : decode cX8_isLive 5 = .ok (.iconst 1, 1) := by decide +kernel
theorem dX8_isLive_6 : decode cX8_isLive 6 = .ok (.isub, 1) := by decide +kernel
theorem dX8_isLive_7 : decode cX8_isLive 7 = .ok (.if_icmp .eq 22, 3) := by decide +kernel
theorem dX8_isLive_10 : decode cX8_isLive 10 = .ok (.aload_n 0, 1) := by decide +kernel
theorem dX8_isLive_11 : decode cX8_isLive 11 = .ok (.getfield 231, 3) := by decide +kernel
theorem dX8_isLive_14 : decode cX8_isLive 14 = .ok (.aload_n 0, 1) := by decide +kernel
theorem dX8_isLive_15 : decode cX8_isLive 15 = .ok (.getfield 128, 3) := by decide +kernel
theorem dX8_isLive_18 : decode cX8_isLive 18 = .ok (.iload_n 1, 1) := by decide +kernel
theorem dX8_isLive_19 : decode cX8_isLive 19 = .ok (.laload, 1) := by decide +kernel
theorem dX8_isLive_20 : decode cX8_isLive 20 = .ok (.lsub, 1) := by decide +kernel
theorem dX8_isLive_21 : decode cX8_isLive 21 = .ok (.aload_n 0, 1) := by decide +kernel
theorem dX8_isLive_22 : decode cX8_isLive 22 = .ok (.getfield 108, 3) := by decide +kernel
theorem dX8_isLive_25 : decode cX8_isLive 25 = .ok (.lcmp, 1) := by decide +kernel
theorem dX8_isLive_26 : decode cX8_isLive 26 = .ok (.ifCond .ge 7, 3) := by decide +kernel
theorem dX8_isLive_29 : decode cX8_isLive 29 = .ok (.iconst 1, 1) := by decide +kernel
theorem dX8_isLive_30 : decode cX8_isLive 30 = .ok (.goto 4, 3) := by decide +kernel
theorem dX8_isLive_33 : decode cX8_isLive 33 = .ok (.iconst 0, 1) := by decide +kernel
theorem dX8_isLive_34 : decode cX8_isLive 34 = .ok (.ireturn, 1) := by decide +kernel
theorem dX8_user_0 : decode cX8_user 0 = .ok (.aload_n 0, 1) := by decide +kernel
theorem dX8_user_1 : decode cX8_user 1 = .ok (.iload_n 1, 1) := by decide +kernel
theorem dX8_user_2 : decode cX8_user 2 = .ok (.i2l, 1) := by decide +kernel
theorem dX8_user_3 : decode cX8_user 3 = .ok (.lconst 0, 1) := by decide +kernel
theorem dX8_user_4 : decode cX8_user 4 = .ok (.ldc2_w 236, 3) := by decide +kernel
theorem dX8_user_7 : decode cX8_user 7 = .ok (.invokestatic 223, 3) := by decide +kernel
theorem dX8_user_10 : decode cX8_user 10 = .ok (.ifCond .eq 7, 3) := by decide +kernel
theorem dX8_user_13 : decode cX8_user 13 = .ok (.iconst 0, 1) := by decide +kernel
theorem dX8_user_14 : decode cX8_user 14 = .ok (.goto 4, 3) := by decide +kernel
theorem dX8_user_17 : decode cX8_user 17 = .ok (.iconst 1, 1) := by decide +kernel
theorem dX8_user_18 : decode cX8_user 18 = .ok (.invokevirtual 227, 3) := by decide +kernel
theorem dX8_user_21 : decode cX8_user 21 = .ok (.ifCond .eq 4, 3) := by decide +kernel
theorem dX8_user_24 : decode cX8_user 24 = .ok (.return_, 1) := by decide +kernel
theorem dX8_user_25 : decode cX8_user 25 = .ok (.aload_n 0, 1) := by decide +kernel
theorem dX8_user_26 : decode cX8_user 26 = .ok (.getfield 132, 3) := by decide +kernel
theorem dX8_user_29 : decode cX8_user 29 = .ok (.iload_n 1, 1) := by decide +kernel
theorem dX8_user_30 : decode cX8_user 30 = .ok (.iconst 1, 1) := by decide +kernel
theorem dX8_user_31 : decode cX8_user 31 = .ok (.bastore, 1) := by decide +kernel
theorem dX8_user_32 : decode cX8_user 32 = .ok (.aload_n 0, 1) := by decide +kernel
theorem dX8_user_33 : decode cX8_user 33 = .ok (.getfield 136, 3) := by decide +kernel
theorem dX8_user_36 : decode cX8_user 36 = .ok (.iload_n 1, 1) := by decide +kernel
theorem dX8_user_37 : decode cX8_user 37 = .ok (.iload_n 2, 1) := by decide +kernel
theorem dX8_user_38 : decode cX8_user 38 = .ok (.iastore, 1) := by decide +kernel
theorem dX8_user_39 : decode cX8_user 39 = .ok (.aload_n 0, 1) := by decide +kernel
theorem dX8_user_40 : decode cX8_user 40 = .ok (.getfield 139, 3) := by decide +kernel
theorem dX8_user_43 : decode cX8_user 43 = .ok (.iload_n 1, 1) := by decide +kernel
theorem dX8_user_44 : decode cX8_user 44 = .ok (.iload_n 3, 1) := by decide +kernel
theorem dX8_user_45 : decode cX8_user 45 = .ok (.iastore, 1) := by decide +kernel
theorem dX8_user_46 : decode cX8_user 46 = .ok (.return_, 1) := by decide +kernel
theorem dX8_isOld_0 : decode cX8_isOld 0 = .ok (.aload_n 0, 1) := by decide +kernel
theorem dX8_isOld_1 : decode cX8_isOld 1 = .ok (.getfield 231, 3) := by decide +kernel
theorem dX8_isOld_4 : decode cX8_isOld 4 = .ok (.aload_n 0, 1) := by decide +kernel
theorem dX8_isOld_5 : decode cX8_isOld 5 = .ok (.getfield 151, 3) := by decide +kernel
theorem dX8_isOld_8 : decode cX8_isOld 8 = .ok (.iload_n 1, 1) := by decide +kernel
theorem dX8_isOld_9 : decode cX8_isOld 9 = .ok (.laload, 1) := by decide +kernel
theorem dX8_isOld_10 : decode cX8_isOld 10 = .ok (.lsub, 1) := by decide +kernel
theorem dX8_isOld_11 : decode cX8_isOld 11 = .ok (.aload_n 0, 1) := by decide +kernel
theorem dX8_isOld_12 : decode cX8_isOld 12 = .ok (.getfield 112, 3) := by decide +kernel
theorem dX8_isOld_15 : decode cX8_isOld 15 = .ok (.lcmp, 1) := by decide +kernel
theorem dX8_isOld_16 : decode cX8_isOld 16 = .ok (.ifCond .lt 7, 3) := by decide +kernel
theorem dX8_isOld_19 : decode cX8_isOld 19 = .ok (.iconst 1, 1) := by decide +kernel
theorem dX8_isOld_20 : decode cX8_isOld 20 = .ok (.goto 4, 3) := by decide +kernel
theorem dX8_isOld_23 : decode cX8_isOld 23 = .ok (.iconst 0, 1) := by decide +kernel
theorem dX8_isOld_24 : decode cX8_isOld 24 = .ok (.ireturn, 1) := by decide +kernel
theorem dX8_isIdle_0 : decode cX8_isIdle 0 = .ok (.aload_n 0, 1) := by decide +kernel
theorem dX8_isIdle_1 : decode cX8_isIdle 1 = .ok (.getfield 231, 3) := by decide +kernel
theorem dX8_isIdle_4 : decode cX8_isIdle 4 = .ok (.aload_n 0, 1) := by decide +kernel
theorem dX8_isIdle_5 : decode cX8_isIdle 5 = .ok (.getfield 154, 3) := by decide +kernel
theorem dX8_isIdle_8 : decode cX8_isIdle 8 = .ok (.iload_n 1, 1) := by decide +kernel
theorem dX8_isIdle_9 : decode cX8_isIdle 9 = .ok (.laload, 1) := by decide +kernel
theorem dX8_isIdle_10 : decode cX8_isIdle 10 = .ok (.lsub, 1) := by decide +kernel
theorem dX8_isIdle_11 : decode cX8_isIdle 11 = .ok (.aload_n 0, 1) := by decide +kernel
theorem dX8_isIdle_12 : decode cX8_isIdle 12 = .ok (.getfield 115, 3) := by decide +kernel
theorem dX8_isIdle_15 : decode cX8_isIdle 15 = .ok (.lcmp, 1) := by decide +kernel
theorem dX8_isIdle_16 : decode cX8_isIdle 16 = .ok (.ifCond .lt 7, 3) := by decide +kernel
theorem dX8_isIdle_19 : decode cX8_isIdle 19 = .ok (.iconst 1, 1) := by decide +kernel
theorem dX8_isIdle_20 : decode cX8_isIdle 20 = .ok (.goto 4, 3) := by decide +kernel
theorem dX8_isIdle_23 : decode cX8_isIdle 23 = .ok (.iconst 0, 1) := by decide +kernel
theorem dX8_isIdle_24 : decode cX8_isIdle 24 = .ok (.ireturn, 1) := by decide +kernel
theorem dX8_login_0 : decode cX8_login 0 = .ok (.aload_n 0, 1) := by decide +kernel
theorem dX8_login_1 : decode cX8_login 1 = .ok (.iload_n 1, 1) := by decide +kernel
theorem dX8_login_2 : decode cX8_login 2 = .ok (.i2l, 1) := by decide +kernel
theorem dX8_login_3 : decode cX8_login 3 = .ok (.lconst 0, 1) := by decide +kernel
theorem dX8_login_4 : decode cX8_login 4 = .ok (.ldc2_w 236, 3) := by decide +kernel
theorem dX8_login_7 : decode cX8_login 7 = .ok (.invokestatic 223, 3) := by decide +kernel
theorem dX8_login_10 : decode cX8_login 10 = .ok (.ifCond .eq 7, 3) := by decide +kernel
theorem dX8_login_13 : decode cX8_login 13 = .ok (.iconst 0, 1) := by decide +kernel
theorem dX8_login_14 : decode cX8_login 14 = .ok (.goto 4, 3) := by decide +kernel
theorem dX8_login_17 : decode cX8_login 17 = .ok (.iconst 1, 1) := by decide +kernel
theorem dX8_login_18 : decode cX8_login 18 = .ok (.invokevirtual 227, 3) := by decide +kernel
theorem dX8_login_21 : decode cX8_login 21 = .ok (.ifCond .eq 5, 3) := by decide +kernel
theorem dX8_login_24 : decode cX8_login 24 = .ok (.iconst 0, 1) := by decide +kernel
theorem dX8_login_25 : decode cX8_login 25 = .ok (.ireturn, 1) := by decide +kernel
theorem dX8_login_26 : decode cX8_login 26 = .ok (.aload_n 0, 1) := by decide +kernel
theorem dX8_login_27 : decode cX8_login 27 = .ok (.getfield 132, 3) := by decide +kernel
theorem dX8_login_30 : decode cX8_login 30 = .ok (.iload_n 1, 1) := by decide +kernel
theorem dX8_login_31 : decode cX8_login 31 = .ok (.baload, 1) := by decide +kernel
theorem dX8_login_32 : decode cX8_login 32 = .ok (.ifCond .eq 23, 3) := by decide +kernel
theorem dX8_login_35 : decode cX8_login 35 = .ok (.aload_n 0, 1) := by decide +kernel
theorem dX8_login_36 : decode cX8_login 36 = .ok (.getfield 136, 3) := by decide +kernel
theorem dX8_login_39 : decode cX8_login 39 = .ok (.iload_n 1, 1) := by decide +kernel
theorem dX8_login_40 : decode cX8_login 40 = .ok (.iaload, 1) := by decide +kernel
theorem dX8_login_41 : decode cX8_login 41 = .ok (.iload_n 2, 1) := by decide +kernel
theorem dX8_login_42 : decode cX8_login 42 = .ok (.if_icmp .ne 13, 3) := by decide +kernel
theorem dX8_login_45 : decode cX8_login 45 = .ok (.aload_n 0, 1) := by decide +kernel
theorem dX8_login_46 : decode cX8_login 46 = .ok (.getfield 139, 3) := by decide +kernel
theorem dX8_login_49 : decode cX8_login 49 = .ok (.iload_n 1, 1) := by decide +kernel
theorem dX8_login_50 : decode cX8_login 50 = .ok (.iaload, 1) := by decide +kernel
theorem dX8_login_51 : decode cX8_login 51 = .ok (.iload_n 3, 1) := by decide +kernel
theorem dX8_login_52 : decode cX8_login 52 = .ok (.if_icmp .eq 6, 3) := by decide +kernel
theorem dX8_login_55 : decode cX8_login 55 = .ok (.bipush (-9), 2) := by decide +kernel
theorem dX8_login_57 : decode cX8_login 57 = .ok (.ireturn, 1) := by decide +kernel
theorem dX8_login_58 : decode cX8_login 58 = .ok (.iconst (-1), 1) := by decide +kernel
theorem dX8_login_59 : decode cX8_login 59 = .ok (.istore 4, 2) := by decide +kernel
theorem dX8_login_61 : decode cX8_login 61 = .ok (.bipush 7, 2) := by decide +kernel
theorem dX8_login_63 : decode cX8_login 63 = .ok (.istore 5, 2) := by decide +kernel
theorem dX8_login_65 : decode cX8_login 65 = .ok (.iload 5, 2) := by decide +kernel
theorem dX8_login_67 : decode cX8_login 67 = .ok (.ifCond .lt 68, 3) := by decide +kernel
theorem dX8_login_70 : decode cX8_login 70 = .ok (.aload_n 0, 1) := by decide +kernel
theorem dX8_login_71 : decode cX8_login 71 = .ok (.getfield 142, 3) := by decide +kernel
theorem dX8_login_74 : decode cX8_login 74 = .ok (.iload 5, 2) := by decide +kernel
theorem dX8_login_76 : decode cX8_login 76 = .ok (.aload_n 0, 1) := by decide +kernel
theorem dX8_login_77 : decode cX8_login 77 = .ok (.getfield 142, 3) := by decide +kernel
theorem dX8_login_80 : decode cX8_login 80 = .ok (.iload 5, 2) := by decide +kernel
theorem dX8_login_82 : decode cX8_login 82 = .ok (.baload, 1) := by decide +kernel
theorem dX8_login_83 : decode cX8_login 83 = .ok (.ifCond .eq 25, 3) := by decide +kernel
theorem dX8_login_86 : decode cX8_login 86 = .ok (.aload_n 0, 1) := by decide +kernel
theorem dX8_login_87 : decode cX8_login 87 = .ok (.iload 5, 2) := by decide +kernel
theorem dX8_login_89 : decode cX8_login 89 = .ok (.invokevirtual 238, 3) := by decide +kernel
theorem dX8_login_92 : decode cX8_login 92 = .ok (.ifCond .ne 16, 3) := by decide +kernel
theorem dX8_login_95 : decode cX8_login 95 = .ok (.aload_n 0, 1) := by decide +kernel
theorem dX8_login_96 : decode cX8_login 96 = .ok (.iload 5, 2) := by decide +kernel
theorem dX8_login_98 : decode cX8_login 98 = .ok (.invokevirtual 241, 3) := by decide +kernel
theorem dX8_login_101 : decode cX8_login 101 = .ok (.ifCond .ne 7, 3) := by decide +kernel
theorem dX8_login_104 : decode cX8_login 104 = .ok (.iconst 1, 1) := by decide +kernel
theorem dX8_login_105 : decode cX8_login 105 = .ok (.goto 4, 3) := by decide +kernel
theorem dX8_login_108 : decode cX8_login 108 = .ok (.iconst 0, 1) := by decide +kernel
theorem dX8_login_109 : decode cX8_login 109 = .ok (.bastore, 1) := by decide +kernel
theorem dX8_login_110 : decode cX8_login 110 = .ok (.aload_n 0, 1) := by decide +kernel
theorem dX8_login_111 : decode cX8_login 111 = .ok (.getfield 142, 3) := by decide +kernel
theorem dX8_login_114 : decode cX8_login 114 = .ok (.iload 5, 2) := by decide +kernel
theorem dX8_login_116 : decode cX8_login 116 = .ok (.baload, 1) := by decide +kernel
theorem dX8_login_117 : decode cX8_login 117 = .ok (.ifCond .eq 8, 3) := by decide +kernel
theorem dX8_login_120 : decode cX8_login 120 = .ok (.iload 4, 2) := by decide +kernel
theorem dX8_login_122 : decode cX8_login 122 = .ok (.goto 5, 3) := by decide +kernel
theorem dX8_login_125 : decode cX8_login 125 = .ok (.iload 5, 2) := by decide +kernel
theorem dX8_login_127 : decode cX8_login 127 = .ok (.istore 4, 2) := by decide +kernel
theorem dX8_login_129 : decode cX8_login 129 = .ok (.iinc 5 (-1), 3) := by decide +kernel
theorem dX8_login_132 : decode cX8_login 132 = .ok (.goto (-67), 3) := by decide +kernel
theorem dX8_login_135 : decode cX8_login 135 = .ok (.iload 4, 2) := by decide +kernel
theorem dX8_login_137 : decode cX8_login 137 = .ok (.ifCond .ge 6, 3) := by decide +kernel
theorem dX8_login_140 : decode cX8_login 140 = .ok (.bipush (-10), 2) := by decide +kernel
theorem dX8_login_142 : decode cX8_login 142 = .ok (.ireturn, 1) := by decide +kernel
theorem dX8_login_143 : decode cX8_login 143 = .ok (.aload_n 0, 1) := by decide +kernel
theorem dX8_login_144 : decode cX8_login 144 = .ok (.getfield 142, 3) := by decide +kernel
theorem dX8_login_147 : decode cX8_login 147 = .ok (.iload 4, 2) := by decide +kernel
theorem dX8_login_149 : decode cX8_login 149 = .ok (.iconst 1, 1) := by decide +kernel
theorem dX8_login_150 : decode cX8_login 150 = .ok (.bastore, 1) := by decide +kernel
theorem dX8_login_151 : decode cX8_login 151 = .ok (.aload_n 0, 1) := by decide +kernel
theorem dX8_login_152 : decode cX8_login 152 = .ok (.getfield 145, 3) := by decide +kernel
theorem dX8_login_155 : decode cX8_login 155 = .ok (.iload 4, 2) := by decide +kernel
theorem dX8_login_157 : decode cX8_login 157 = .ok (.iload_n 1, 1) := by decide +kernel
theorem dX8_login_158 : decode cX8_login 158 = .ok (.iastore, 1) := by decide +kernel
theorem dX8_login_159 : decode cX8_login 159 = .ok (.aload_n 0, 1) := by decide +kernel
theorem dX8_login_160 : decode cX8_login 160 = .ok (.getfield 148, 3) := by decide +kernel
theorem dX8_login_163 : decode cX8_login 163 = .ok (.iload 4, 2) := by decide +kernel
theorem dX8_login_165 : decode cX8_login 165 = .ok (.aload_n 0, 1) := by decide +kernel
theorem dX8_login_166 : decode cX8_login 166 = .ok (.invokevirtual 244, 3) := by decide +kernel
theorem dX8_login_169 : decode cX8_login 169 = .ok (.lastore, 1) := by decide +kernel
theorem dX8_login_170 : decode cX8_login 170 = .ok (.aload_n 0, 1) := by decide +kernel
theorem dX8_login_171 : decode cX8_login 171 = .ok (.dup, 1) := by decide +kernel
theorem dX8_login_172 : decode cX8_login 172 = .ok (.getfield 191, 3) := by decide +kernel
theorem dX8_login_175 : decode cX8_login 175 = .ok (.lconst 1, 1) := by decide +kernel
theorem dX8_login_176 : decode cX8_login 176 = .ok (.ladd, 1) := by decide +kernel
theorem dX8_login_177 : decode cX8_login 177 = .ok (.putfield 191, 3) := by decide +kernel
theorem dX8_login_180 : decode cX8_login 180 = .ok (.aload_n 0, 1) := by decide +kernel
theorem dX8_login_181 : decode cX8_login 181 = .ok (.getfield 151, 3) := by decide +kernel
theorem dX8_login_184 : decode cX8_login 184 = .ok (.iload 4, 2) := by decide +kernel
theorem dX8_login_186 : decode cX8_login 186 = .ok (.aload_n 0, 1) := by decide +kernel
theorem dX8_login_187 : decode cX8_login 187 = .ok (.getfield 231, 3) := by decide +kernel
theorem dX8_login_190 : decode cX8_login 190 = .ok (.lastore, 1) := by decide +kernel
theorem dX8_login_191 : decode cX8_login 191 = .ok (.aload_n 0, 1) := by decide +kernel
theorem dX8_login_192 : decode cX8_login 192 = .ok (.getfield 154, 3) := by decide +kernel
theorem dX8_login_195 : decode cX8_login 195 = .ok (.iload 4, 2) := by decide +kernel
theorem dX8_login_197 : decode cX8_login 197 = .ok (.aload_n 0, 1) := by decide +kernel
theorem dX8_login_198 : decode cX8_login 198 = .ok (.getfield 231, 3) := by decide +kernel
theorem dX8_login_201 : decode cX8_login 201 = .ok (.lastore, 1) := by decide +kernel
theorem dX8_login_202 : decode cX8_login 202 = .ok (.aload_n 0, 1) := by decide +kernel
theorem dX8_login_203 : decode cX8_login 203 = .ok (.iload 4, 2) := by decide +kernel
theorem dX8_login_205 : decode cX8_login 205 = .ok (.invokevirtual 248, 3) := by decide +kernel
theorem dX8_login_208 : decode cX8_login 208 = .ok (.iload 4, 2) := by decide +kernel
theorem dX8_login_210 : decode cX8_login 210 = .ok (.ireturn, 1) := by decide +kernel
theorem dX8_isForm_0 : decode cX8_isForm 0 = .ok (.aload_n 0, 1) := by decide +kernel
theorem dX8_isForm_1 : decode cX8_isForm 1 = .ok (.getfield 157, 3) := by decide +kernel
theorem dX8_isForm_4 : decode cX8_isForm 4 = .ok (.iconst 0, 1) := by decide +kernel
theorem dX8_isForm_5 : decode cX8_isForm 5 = .ok (.iaload, 1) := by decide +kernel
theorem dX8_isForm_6 : decode cX8_isForm 6 = .ok (.bipush 30, 2) := by decide +kernel
theorem dX8_isForm_8 : decode cX8_isForm 8 = .ok (.if_icmp .eq 5, 3) := by decide +kernel
theorem dX8_isForm_11 : decode cX8_isForm 11 = .ok (.iconst 0, 1) := by decide +kernel
theorem dX8_isForm_12 : decode cX8_isForm 12 = .ok (.ireturn, 1) := by decide +kernel
theorem dX8_isForm_13 : decode cX8_isForm 13 = .ok (.iconst 0, 1) := by decide +kernel
theorem dX8_isForm_14 : decode cX8_isForm 14 = .ok (.istore_n 1, 1) := by decide +kernel
theorem dX8_isForm_15 : decode cX8_isForm 15 = .ok (.iload_n 1, 1) := by decide +kernel
theorem dX8_isForm_16 : decode cX8_isForm 16 = .ok (.bipush 24, 2) := by decide +kernel
theorem dX8_isForm_18 : decode cX8_isForm 18 = .ok (.if_icmp .ge 16, 3) := by decide +kernel
theorem dX8_isForm_21 : decode cX8_isForm 21 = .ok (.aload_n 0, 1) := by decide +kernel
theorem dX8_isForm_22 : decode cX8_isForm 22 = .ok (.getfield 163, 3) := by decide +kernel
theorem dX8_isForm_25 : decode cX8_isForm 25 = .ok (.iload_n 1, 1) := by decide +kernel
theorem dX8_isForm_26 : decode cX8_isForm 26 = .ok (.iconst 0, 1) := by decide +kernel
theorem dX8_isForm_27 : decode cX8_isForm 27 = .ok (.iastore, 1) := by decide +kernel
theorem dX8_isForm_28 : decode cX8_isForm 28 = .ok (.iinc 1 1, 3) := by decide +kernel
theorem dX8_isForm_31 : decode cX8_isForm 31 = .ok (.goto (-16), 3) := by decide +kernel
theorem dX8_isForm_34 : decode cX8_isForm 34 = .ok (.iconst 0, 1) := by decide +kernel
theorem dX8_isForm_35 : decode cX8_isForm 35 = .ok (.istore_n 1, 1) := by decide +kernel
theorem dX8_isForm_36 : decode cX8_isForm 36 = .ok (.iload_n 1, 1) := by decide +kernel
theorem dX8_isForm_37 : decode cX8_isForm 37 = .ok (.bipush 30, 2) := by decide +kernel
theorem dX8_isForm_39 : decode cX8_isForm 39 = .ok (.if_icmp .ge 84, 3) := by decide +kernel
theorem dX8_isForm_42 : decode cX8_isForm 42 = .ok (.aload_n 0, 1) := by decide +kernel
theorem dX8_isForm_43 : decode cX8_isForm 43 = .ok (.getfield 160, 3) := by decide +kernel
theorem dX8_isForm_46 : decode cX8_isForm 46 = .ok (.iload_n 1, 1) := by decide +kernel
theorem dX8_isForm_47 : decode cX8_isForm 47 = .ok (.iaload, 1) := by decide +kernel
theorem dX8_isForm_48 : decode cX8_isForm 48 = .ok (.invokestatic 251, 3) := by decide +kernel
theorem dX8_isForm_51 : decode cX8_isForm 51 = .ok (.istore_n 2, 1) := by decide +kernel
theorem dX8_isForm_52 : decode cX8_isForm 52 = .ok (.iload_n 2, 1) := by decide +kernel
theorem dX8_isForm_53 : decode cX8_isForm 53 = .ok (.ifCond .ge 5, 3) := by decide +kernel
theorem dX8_isForm_56 : decode cX8_isForm 56 = .ok (.iconst 0, 1) := by decide +kernel
theorem dX8_isForm_57 : decode cX8_isForm 57 = .ok (.ireturn, 1) := by decide +kernel
theorem dX8_isForm_58 : decode cX8_isForm 58 = .ok (.iconst 0, 1) := by decide +kernel
theorem dX8_isForm_59 : decode cX8_isForm 59 = .ok (.istore_n 3, 1) := by decide +kernel
theorem dX8_isForm_60 : decode cX8_isForm 60 = .ok (.iload_n 3, 1) := by decide +kernel
theorem dX8_isForm_61 : decode cX8_isForm 61 = .ok (.bipush 6, 2) := by decide +kernel
theorem dX8_isForm_63 : decode cX8_isForm 63 = .ok (.if_icmp .ge 54, 3) := by decide +kernel
theorem dX8_isForm_66 : decode cX8_isForm 66 = .ok (.bipush 6, 2) := by decide +kernel
theorem dX8_isForm_68 : decode cX8_isForm 68 = .ok (.iload_n 1, 1) := by decide +kernel
theorem dX8_isForm_69 : decode cX8_isForm 69 = .ok (.imul, 1) := by decide +kernel
theorem dX8_isForm_70 : decode cX8_isForm 70 = .ok (.iload_n 3, 1) := by decide +kernel
theorem dX8_isForm_71 : decode cX8_isForm 71 = .ok (.iadd, 1) := by decide +kernel
theorem dX8_isForm_72 : decode cX8_isForm 72 = .ok (.istore 4, 2) := by decide +kernel
theorem dX8_isForm_74 : decode cX8_isForm 74 = .ok (.aload_n 0, 1) := by decide +kernel
theorem dX8_isForm_75 : decode cX8_isForm 75 = .ok (.getfield 163, 3) := by decide +kernel
theorem dX8_isForm_78 : decode cX8_isForm 78 = .ok (.iload 4, 2) := by decide +kernel
theorem dX8_isForm_80 : decode cX8_isForm 80 = .ok (.bipush 8, 2) := by decide +kernel
theorem dX8_isForm_82 : decode cX8_isForm 82 = .ok (.idiv, 1) := by decide +kernel
theorem dX8_isForm_83 : decode cX8_isForm 83 = .ok (.aload_n 0, 1) := by decide +kernel
theorem dX8_isForm_84 : decode cX8_isForm 84 = .ok (.getfield 163, 3) := by decide +kernel
theorem dX8_isForm_87 : decode cX8_isForm 87 = .ok (.iload 4, 2) := by decide +kernel
theorem dX8_isForm_89 : decode cX8_isForm 89 = .ok (.bipush 8, 2) := by decide +kernel
theorem dX8_isForm_91 : decode cX8_isForm 91 = .ok (.idiv, 1) := by decide +kernel
theorem dX8_isForm_92 : decode cX8_isForm 92 = .ok (.iaload, 1) := by decide +kernel
theorem dX8_isForm_93 : decode cX8_isForm 93 = .ok (.iload_n 2, 1) := by decide +kernel
theorem dX8_isForm_94 : decode cX8_isForm 94 = .ok (.iconst 5, 1) := by decide +kernel
theorem dX8_isForm_95 : decode cX8_isForm 95 = .ok (.iload_n 3, 1) := by decide +kernel
theorem dX8_isForm_96 : decode cX8_isForm 96 = .ok (.isub, 1) := by decide +kernel
theorem dX8_isForm_97 : decode cX8_isForm 97 = .ok (.ishr, 1) := by decide +kernel
theorem dX8_isForm_98 : decode cX8_isForm 98 = .ok (.iconst 1, 1) := by decide +kernel
theorem dX8_isForm_99 : decode cX8_isForm 99 = .ok (.iand, 1) := by decide +kernel
theorem dX8_isForm_100 : decode cX8_isForm 100 = .ok (.bipush 7, 2) := by decide +kernel
theorem dX8_isForm_102 : decode cX8_isForm 102 = .ok (.iload 4, 2) := by decide +kernel
theorem dX8_isForm_104 : decode cX8_isForm 104 = .ok (.bipush 8, 2) := by decide +kernel
theorem dX8_isForm_106 : decode cX8_isForm 106 = .ok (.irem, 1) := by decide +kernel
theorem dX8_isForm_107 : decode cX8_isForm 107 = .ok (.isub, 1) := by decide +kernel
theorem dX8_isForm_108 : decode cX8_isForm 108 = .ok (.ishl, 1) := by decide +kernel
theorem dX8_isForm_109 : decode cX8_isForm 109 = .ok (.ior, 1) := by decide +kernel
theorem dX8_isForm_110 : decode cX8_isForm 110 = .ok (.iastore, 1) := by decide +kernel
theorem dX8_isForm_111 : decode cX8_isForm 111 = .ok (.iinc 3 1, 3) := by decide +kernel
theorem dX8_isForm_114 : decode cX8_isForm 114 = .ok (.goto (-54), 3) := by decide +kernel
theorem dX8_isForm_117 : decode cX8_isForm 117 = .ok (.iinc 1 1, 3) := by decide +kernel
theorem dX8_isForm_120 : decode cX8_isForm 120 = .ok (.goto (-84), 3) := by decide +kernel
theorem dX8_isForm_123 : decode cX8_isForm 123 = .ok (.aload_n 0, 1) := by decide +kernel
theorem dX8_isForm_124 : decode cX8_isForm 124 = .ok (.getfield 163, 3) := by decide +kernel
theorem dX8_isForm_127 : decode cX8_isForm 127 = .ok (.bipush 22, 2) := by decide +kernel
theorem dX8_isForm_129 : decode cX8_isForm 129 = .ok (.iaload, 1) := by decide +kernel
theorem dX8_isForm_130 : decode cX8_isForm 130 = .ok (.ifCond .ne 7, 3) := by decide +kernel
theorem dX8_isForm_133 : decode cX8_isForm 133 = .ok (.iconst 1, 1) := by decide +kernel
theorem dX8_isForm_134 : decode cX8_isForm 134 = .ok (.goto 4, 3) := by decide +kernel
theorem dX8_isForm_137 : decode cX8_isForm 137 = .ok (.iconst 0, 1) := by decide +kernel
theorem dX8_isForm_138 : decode cX8_isForm 138 = .ok (.ireturn, 1) := by decide +kernel
theorem dX8_request_0 : decode cX8_request 0 = .ok (.aload_n 0, 1) := by decide +kernel
theorem dX8_request_1 : decode cX8_request 1 = .ok (.iconst 0, 1) := by decide +kernel
theorem dX8_request_2 : decode cX8_request 2 = .ok (.putfield 166, 3) := by decide +kernel
theorem dX8_request_5 : decode cX8_request 5 = .ok (.aload_n 0, 1) := by decide +kernel
theorem dX8_request_6 : decode cX8_request 6 = .ok (.iload_n 1, 1) := by decide +kernel
theorem dX8_request_7 : decode cX8_request 7 = .ok (.invokevirtual 264, 3) := by decide +kernel
theorem dX8_request_10 : decode cX8_request 10 = .ok (.istore_n 2, 1) := by decide +kernel
theorem dX8_request_11 : decode cX8_request 11 = .ok (.iload_n 2, 1) := by decide +kernel
theorem dX8_request_12 : decode cX8_request 12 = .ok (.ifCond .ge 15, 3) := by decide +kernel
theorem dX8_request_15 : decode cX8_request 15 = .ok (.aload_n 0, 1) := by decide +kernel
theorem dX8_request_16 : decode cX8_request 16 = .ok (.dup, 1) := by decide +kernel
theorem dX8_request_17 : decode cX8_request 17 = .ok (.getfield 268, 3) := by decide +kernel
theorem dX8_request_20 : decode cX8_request 20 = .ok (.iconst 1, 1) := by decide +kernel
theorem dX8_request_21 : decode cX8_request 21 = .ok (.iadd, 1) := by decide +kernel
theorem dX8_request_22 : decode cX8_request 22 = .ok (.putfield 268, 3) := by decide +kernel
theorem dX8_request_25 : decode cX8_request 25 = .ok (.iload_n 2, 1) := by decide +kernel
theorem dX8_request_26 : decode cX8_request 26 = .ok (.ireturn, 1) := by decide +kernel
theorem dX8_request_27 : decode cX8_request 27 = .ok (.aload_n 0, 1) := by decide +kernel
theorem dX8_request_28 : decode cX8_request 28 = .ok (.dup, 1) := by decide +kernel
theorem dX8_request_29 : decode cX8_request 29 = .ok (.getfield 271, 3) := by decide +kernel
theorem dX8_request_32 : decode cX8_request 32 = .ok (.iconst 1, 1) := by decide +kernel
theorem dX8_request_33 : decode cX8_request 33 = .ok (.iadd, 1) := by decide +kernel
theorem dX8_request_34 : decode cX8_request 34 = .ok (.putfield 271, 3) := by decide +kernel
theorem dX8_request_37 : decode cX8_request 37 = .ok (.aload_n 0, 1) := by decide +kernel
theorem dX8_request_38 : decode cX8_request 38 = .ok (.getfield 154, 3) := by decide +kernel
theorem dX8_request_41 : decode cX8_request 41 = .ok (.iload_n 2, 1) := by decide +kernel
theorem dX8_request_42 : decode cX8_request 42 = .ok (.aload_n 0, 1) := by decide +kernel
theorem dX8_request_43 : decode cX8_request 43 = .ok (.getfield 231, 3) := by decide +kernel
theorem dX8_request_46 : decode cX8_request 46 = .ok (.lastore, 1) := by decide +kernel
theorem dX8_request_47 : decode cX8_request 47 = .ok (.aload_n 0, 1) := by decide +kernel
theorem dX8_request_48 : decode cX8_request 48 = .ok (.getfield 258, 3) := by decide +kernel
theorem dX8_request_51 : decode cX8_request 51 = .ok (.aload_n 0, 1) := by decide +kernel
theorem dX8_request_52 : decode cX8_request 52 = .ok (.getfield 118, 3) := by decide +kernel
theorem dX8_request_55 : decode cX8_request 55 = .ok (.iconst 1, 1) := by decide +kernel
theorem dX8_request_56 : decode cX8_request 56 = .ok (.isub, 1) := by decide +kernel
theorem dX8_request_57 : decode cX8_request 57 = .ok (.if_icmp .ge 18, 3) := by decide +kernel
theorem dX8_request_60 : decode cX8_request 60 = .ok (.aload_n 0, 1) := by decide +kernel
theorem dX8_request_61 : decode cX8_request 61 = .ok (.iload_n 2, 1) := by decide +kernel
theorem dX8_request_62 : decode cX8_request 62 = .ok (.invokevirtual 248, 3) := by decide +kernel
theorem dX8_request_65 : decode cX8_request 65 = .ok (.aload_n 0, 1) := by decide +kernel
theorem dX8_request_66 : decode cX8_request 66 = .ok (.dup, 1) := by decide +kernel
theorem dX8_request_67 : decode cX8_request 67 = .ok (.getfield 274, 3) := by decide +kernel
theorem dX8_request_70 : decode cX8_request 70 = .ok (.iconst 1, 1) := by decide +kernel
theorem dX8_request_71 : decode cX8_request 71 = .ok (.iadd, 1) := by decide +kernel
theorem dX8_request_72 : decode cX8_request 72 = .ok (.putfield 274, 3) := by decide +kernel
theorem dX8_request_75 : decode cX8_request 75 = .ok (.iload_n 2, 1) := by decide +kernel
theorem dX8_request_76 : decode cX8_request 76 = .ok (.ireturn, 1) := by decide +kernel
theorem dX8_logout_0 : decode cX8_logout 0 = .ok (.aload_n 0, 1) := by decide +kernel
theorem dX8_logout_1 : decode cX8_logout 1 = .ok (.iconst 0, 1) := by decide +kernel
theorem dX8_logout_2 : decode cX8_logout 2 = .ok (.putfield 166, 3) := by decide +kernel
theorem dX8_logout_5 : decode cX8_logout 5 = .ok (.aload_n 0, 1) := by decide +kernel
theorem dX8_logout_6 : decode cX8_logout 6 = .ok (.iconst 1, 1) := by decide +kernel
theorem dX8_logout_7 : decode cX8_logout 7 = .ok (.invokevirtual 264, 3) := by decide +kernel
theorem dX8_logout_10 : decode cX8_logout 10 = .ok (.istore_n 1, 1) := by decide +kernel
theorem dX8_logout_11 : decode cX8_logout 11 = .ok (.iload_n 1, 1) := by decide +kernel
theorem dX8_logout_12 : decode cX8_logout 12 = .ok (.ifCond .ge 15, 3) := by decide +kernel
theorem dX8_logout_15 : decode cX8_logout 15 = .ok (.aload_n 0, 1) := by decide +kernel
theorem dX8_logout_16 : decode cX8_logout 16 = .ok (.dup, 1) := by decide +kernel
theorem dX8_logout_17 : decode cX8_logout 17 = .ok (.getfield 268, 3) := by decide +kernel
theorem dX8_logout_20 : decode cX8_logout 20 = .ok (.iconst 1, 1) := by decide +kernel
theorem dX8_logout_21 : decode cX8_logout 21 = .ok (.iadd, 1) := by decide +kernel
theorem dX8_logout_22 : decode cX8_logout 22 = .ok (.putfield 268, 3) := by decide +kernel
theorem dX8_logout_25 : decode cX8_logout 25 = .ok (.iload_n 1, 1) := by decide +kernel
theorem dX8_logout_26 : decode cX8_logout 26 = .ok (.ireturn, 1) := by decide +kernel
theorem dX8_logout_27 : decode cX8_logout 27 = .ok (.aload_n 0, 1) := by decide +kernel
theorem dX8_logout_28 : decode cX8_logout 28 = .ok (.dup, 1) := by decide +kernel
theorem dX8_logout_29 : decode cX8_logout 29 = .ok (.getfield 271, 3) := by decide +kernel
theorem dX8_logout_32 : decode cX8_logout 32 = .ok (.iconst 1, 1) := by decide +kernel
theorem dX8_logout_33 : decode cX8_logout 33 = .ok (.iadd, 1) := by decide +kernel
theorem dX8_logout_34 : decode cX8_logout 34 = .ok (.putfield 271, 3) := by decide +kernel
theorem dX8_logout_37 : decode cX8_logout 37 = .ok (.aload_n 0, 1) := by decide +kernel
theorem dX8_logout_38 : decode cX8_logout 38 = .ok (.getfield 142, 3) := by decide +kernel
theorem dX8_logout_41 : decode cX8_logout 41 = .ok (.iload_n 1, 1) := by decide +kernel
theorem dX8_logout_42 : decode cX8_logout 42 = .ok (.iconst 0, 1) := by decide +kernel
theorem dX8_logout_43 : decode cX8_logout 43 = .ok (.bastore, 1) := by decide +kernel
theorem dX8_logout_44 : decode cX8_logout 44 = .ok (.iload_n 1, 1) := by decide +kernel
theorem dX8_logout_45 : decode cX8_logout 45 = .ok (.ireturn, 1) := by decide +kernel
theorem dX8_revoke_0 : decode cX8_revoke 0 = .ok (.aload_n 0, 1) := by decide +kernel
theorem dX8_revoke_1 : decode cX8_revoke 1 = .ok (.iload_n 1, 1) := by decide +kernel
theorem dX8_revoke_2 : decode cX8_revoke 2 = .ok (.i2l, 1) := by decide +kernel
theorem dX8_revoke_3 : decode cX8_revoke 3 = .ok (.lconst 0, 1) := by decide +kernel
theorem dX8_revoke_4 : decode cX8_revoke 4 = .ok (.ldc2_w 236, 3) := by decide +kernel
theorem dX8_revoke_7 : decode cX8_revoke 7 = .ok (.invokestatic 223, 3) := by decide +kernel
theorem dX8_revoke_10 : decode cX8_revoke 10 = .ok (.ifCond .eq 7, 3) := by decide +kernel
theorem dX8_revoke_13 : decode cX8_revoke 13 = .ok (.iconst 0, 1) := by decide +kernel
theorem dX8_revoke_14 : decode cX8_revoke 14 = .ok (.goto 4, 3) := by decide +kernel
theorem dX8_revoke_17 : decode cX8_revoke 17 = .ok (.iconst 1, 1) := by decide +kernel
theorem dX8_revoke_18 : decode cX8_revoke 18 = .ok (.invokevirtual 227, 3) := by decide +kernel
theorem dX8_revoke_21 : decode cX8_revoke 21 = .ok (.ifCond .eq 5, 3) := by decide +kernel
theorem dX8_revoke_24 : decode cX8_revoke 24 = .ok (.iconst 0, 1) := by decide +kernel
theorem dX8_revoke_25 : decode cX8_revoke 25 = .ok (.ireturn, 1) := by decide +kernel
theorem dX8_revoke_26 : decode cX8_revoke 26 = .ok (.iconst 0, 1) := by decide +kernel
theorem dX8_revoke_27 : decode cX8_revoke 27 = .ok (.istore_n 2, 1) := by decide +kernel
theorem dX8_revoke_28 : decode cX8_revoke 28 = .ok (.iconst 0, 1) := by decide +kernel
theorem dX8_revoke_29 : decode cX8_revoke 29 = .ok (.istore_n 3, 1) := by decide +kernel
theorem dX8_revoke_30 : decode cX8_revoke 30 = .ok (.iload_n 3, 1) := by decide +kernel
theorem dX8_revoke_31 : decode cX8_revoke 31 = .ok (.bipush 8, 2) := by decide +kernel
theorem dX8_revoke_33 : decode cX8_revoke 33 = .ok (.if_icmp .ge 38, 3) := by decide +kernel
theorem dX8_revoke_36 : decode cX8_revoke 36 = .ok (.aload_n 0, 1) := by decide +kernel
theorem dX8_revoke_37 : decode cX8_revoke 37 = .ok (.getfield 142, 3) := by decide +kernel
theorem dX8_revoke_40 : decode cX8_revoke 40 = .ok (.iload_n 3, 1) := by decide +kernel
theorem dX8_revoke_41 : decode cX8_revoke 41 = .ok (.baload, 1) := by decide +kernel
theorem dX8_revoke_42 : decode cX8_revoke 42 = .ok (.ifCond .eq 23, 3) := by decide +kernel
theorem dX8_revoke_45 : decode cX8_revoke 45 = .ok (.aload_n 0, 1) := by decide +kernel
theorem dX8_revoke_46 : decode cX8_revoke 46 = .ok (.getfield 145, 3) := by decide +kernel
theorem dX8_revoke_49 : decode cX8_revoke 49 = .ok (.iload_n 3, 1) := by decide +kernel
theorem dX8_revoke_50 : decode cX8_revoke 50 = .ok (.iaload, 1) := by decide +kernel
theorem dX8_revoke_51 : decode cX8_revoke 51 = .ok (.iload_n 1, 1) := by decide +kernel
theorem dX8_revoke_52 : decode cX8_revoke 52 = .ok (.if_icmp .ne 13, 3) := by decide +kernel
theorem dX8_revoke_55 : decode cX8_revoke 55 = .ok (.aload_n 0, 1) := by decide +kernel
theorem dX8_revoke_56 : decode cX8_revoke 56 = .ok (.getfield 142, 3) := by decide +kernel
theorem dX8_revoke_59 : decode cX8_revoke 59 = .ok (.iload_n 3, 1) := by decide +kernel
theorem dX8_revoke_60 : decode cX8_revoke 60 = .ok (.iconst 0, 1) := by decide +kernel
theorem dX8_revoke_61 : decode cX8_revoke 61 = .ok (.bastore, 1) := by decide +kernel
theorem dX8_revoke_62 : decode cX8_revoke 62 = .ok (.iinc 2 1, 3) := by decide +kernel
theorem dX8_revoke_65 : decode cX8_revoke 65 = .ok (.iinc 3 1, 3) := by decide +kernel
theorem dX8_revoke_68 : decode cX8_revoke 68 = .ok (.goto (-38), 3) := by decide +kernel
theorem dX8_revoke_71 : decode cX8_revoke 71 = .ok (.iload_n 2, 1) := by decide +kernel
theorem dX8_revoke_72 : decode cX8_revoke 72 = .ok (.ireturn, 1) := by decide +kernel
theorem dX8_typed_0 : decode cX8_typed 0 = .ok (.iload_n 3, 1) := by decide +kernel
theorem dX8_typed_1 : decode cX8_typed 1 = .ok (.istore 4, 2) := by decide +kernel
theorem dX8_typed_3 : decode cX8_typed 3 = .ok (.bipush 24, 2) := by decide +kernel
theorem dX8_typed_5 : decode cX8_typed 5 = .ok (.istore 5, 2) := by decide +kernel
theorem dX8_typed_7 : decode cX8_typed 7 = .ok (.iload 5, 2) := by decide +kernel
theorem dX8_typed_9 : decode cX8_typed 9 = .ok (.ifCond .lt 48, 3) := by decide +kernel
theorem dX8_typed_12 : decode cX8_typed 12 = .ok (.iload_n 2, 1) := by decide +kernel
theorem dX8_typed_13 : decode cX8_typed 13 = .ok (.iload 5, 2) := by decide +kernel
theorem dX8_typed_15 : decode cX8_typed 15 = .ok (.ishr, 1) := by decide +kernel
theorem dX8_typed_16 : decode cX8_typed 16 = .ok (.sipush 255, 3) := by decide +kernel
theorem dX8_typed_19 : decode cX8_typed 19 = .ok (.iand, 1) := by decide +kernel
theorem dX8_typed_20 : decode cX8_typed 20 = .ok (.istore 6, 2) := by decide +kernel
theorem dX8_typed_22 : decode cX8_typed 22 = .ok (.iload 6, 2) := by decide +kernel
theorem dX8_typed_24 : decode cX8_typed 24 = .ok (.ifCond .eq 27, 3) := by decide +kernel
theorem dX8_typed_27 : decode cX8_typed 27 = .ok (.iload 4, 2) := by decide +kernel
theorem dX8_typed_29 : decode cX8_typed 29 = .ok (.bipush 40, 2) := by decide +kernel
theorem dX8_typed_31 : decode cX8_typed 31 = .ok (.if_icmp .ge 17, 3) := by decide +kernel
theorem dX8_typed_34 : decode cX8_typed 34 = .ok (.aload_n 0, 1) := by decide +kernel
theorem dX8_typed_35 : decode cX8_typed 35 = .ok (.getfield 160, 3) := by decide +kernel
theorem dX8_typed_38 : decode cX8_typed 38 = .ok (.bipush 40, 2) := by decide +kernel
theorem dX8_typed_40 : decode cX8_typed 40 = .ok (.iload_n 1, 1) := by decide +kernel
theorem dX8_typed_41 : decode cX8_typed 41 = .ok (.imul, 1) := by decide +kernel
theorem dX8_typed_42 : decode cX8_typed 42 = .ok (.iload 4, 2) := by decide +kernel
theorem dX8_typed_44 : decode cX8_typed 44 = .ok (.iadd, 1) := by decide +kernel
theorem dX8_typed_45 : decode cX8_typed 45 = .ok (.iload 6, 2) := by decide +kernel
theorem dX8_typed_47 : decode cX8_typed 47 = .ok (.iastore, 1) := by decide +kernel
theorem dX8_typed_48 : decode cX8_typed 48 = .ok (.iinc 4 1, 3) := by decide +kernel
theorem dX8_typed_51 : decode cX8_typed 51 = .ok (.iinc 5 (-8), 3) := by decide +kernel
theorem dX8_typed_54 : decode cX8_typed 54 = .ok (.goto (-47), 3) := by decide +kernel
theorem dX8_typed_57 : decode cX8_typed 57 = .ok (.iload 4, 2) := by decide +kernel
theorem dX8_typed_59 : decode cX8_typed 59 = .ok (.ireturn, 1) := by decide +kernel
theorem dX8_many_0 : decode cX8_many 0 = .ok (.iload_n 0, 1) := by decide +kernel
theorem dX8_many_1 : decode cX8_many 1 = .ok (.bipush 24, 2) := by decide +kernel
theorem dX8_many_3 : decode cX8_many 3 = .ok (.ishr, 1) := by decide +kernel
theorem dX8_many_4 : decode cX8_many 4 = .ok (.sipush 255, 3) := by decide +kernel
theorem dX8_many_7 : decode cX8_many 7 = .ok (.iand, 1) := by decide +kernel
theorem dX8_many_8 : decode cX8_many 8 = .ok (.ifCond .le 7, 3) := by decide +kernel
theorem dX8_many_11 : decode cX8_many 11 = .ok (.iconst 1, 1) := by decide +kernel
theorem dX8_many_12 : decode cX8_many 12 = .ok (.goto 4, 3) := by decide +kernel
theorem dX8_many_15 : decode cX8_many 15 = .ok (.iconst 0, 1) := by decide +kernel
theorem dX8_many_16 : decode cX8_many 16 = .ok (.iload_n 0, 1) := by decide +kernel
theorem dX8_many_17 : decode cX8_many 17 = .ok (.bipush 16, 2) := by decide +kernel
theorem dX8_many_19 : decode cX8_many 19 = .ok (.ishr, 1) := by decide +kernel
theorem dX8_many_20 : decode cX8_many 20 = .ok (.sipush 255, 3) := by decide +kernel
theorem dX8_many_23 : decode cX8_many 23 = .ok (.iand, 1) := by decide +kernel
theorem dX8_many_24 : decode cX8_many 24 = .ok (.ifCond .le 7, 3) := by decide +kernel
theorem dX8_many_27 : decode cX8_many 27 = .ok (.iconst 1, 1) := by decide +kernel
theorem dX8_many_28 : decode cX8_many 28 = .ok (.goto 4, 3) := by decide +kernel
theorem dX8_many_31 : decode cX8_many 31 = .ok (.iconst 0, 1) := by decide +kernel
theorem dX8_many_32 : decode cX8_many 32 = .ok (.iadd, 1) := by decide +kernel
theorem dX8_many_33 : decode cX8_many 33 = .ok (.iload_n 0, 1) := by decide +kernel
theorem dX8_many_34 : decode cX8_many 34 = .ok (.bipush 8, 2) := by decide +kernel
theorem dX8_many_36 : decode cX8_many 36 = .ok (.ishr, 1) := by decide +kernel
theorem dX8_many_37 : decode cX8_many 37 = .ok (.sipush 255, 3) := by decide +kernel
theorem dX8_many_40 : decode cX8_many 40 = .ok (.iand, 1) := by decide +kernel
theorem dX8_many_41 : decode cX8_many 41 = .ok (.ifCond .le 7, 3) := by decide +kernel
theorem dX8_many_44 : decode cX8_many 44 = .ok (.iconst 1, 1) := by decide +kernel
theorem dX8_many_45 : decode cX8_many 45 = .ok (.goto 4, 3) := by decide +kernel
theorem dX8_many_48 : decode cX8_many 48 = .ok (.iconst 0, 1) := by decide +kernel
theorem dX8_many_49 : decode cX8_many 49 = .ok (.iadd, 1) := by decide +kernel
theorem dX8_many_50 : decode cX8_many 50 = .ok (.iload_n 0, 1) := by decide +kernel
theorem dX8_many_51 : decode cX8_many 51 = .ok (.sipush 255, 3) := by decide +kernel
theorem dX8_many_54 : decode cX8_many 54 = .ok (.iand, 1) := by decide +kernel
theorem dX8_many_55 : decode cX8_many 55 = .ok (.ifCond .le 7, 3) := by decide +kernel
theorem dX8_many_58 : decode cX8_many 58 = .ok (.iconst 1, 1) := by decide +kernel
theorem dX8_many_59 : decode cX8_many 59 = .ok (.goto 4, 3) := by decide +kernel
theorem dX8_many_62 : decode cX8_many 62 = .ok (.iconst 0, 1) := by decide +kernel
theorem dX8_many_63 : decode cX8_many 63 = .ok (.iadd, 1) := by decide +kernel
theorem dX8_many_64 : decode cX8_many 64 = .ok (.ireturn, 1) := by decide +kernel
theorem dX8_type_0 : decode cX8_type 0 = .ok (.iload_n 1, 1) := by decide +kernel
theorem dX8_type_1 : decode cX8_type 1 = .ok (.ifCond .eq 8, 3) := by decide +kernel
theorem dX8_type_4 : decode cX8_type 4 = .ok (.iload_n 1, 1) := by decide +kernel
theorem dX8_type_5 : decode cX8_type 5 = .ok (.iconst 1, 1) := by decide +kernel
theorem dX8_type_6 : decode cX8_type 6 = .ok (.if_icmp .ne 7, 3) := by decide +kernel
theorem dX8_type_9 : decode cX8_type 9 = .ok (.iconst 1, 1) := by decide +kernel
theorem dX8_type_10 : decode cX8_type 10 = .ok (.goto 4, 3) := by decide +kernel
theorem dX8_type_13 : decode cX8_type 13 = .ok (.iconst 0, 1) := by decide +kernel
theorem dX8_type_14 : decode cX8_type 14 = .ok (.istore 6, 2) := by decide +kernel
theorem dX8_type_16 : decode cX8_type 16 = .ok (.aload_n 0, 1) := by decide +kernel
theorem dX8_type_17 : decode cX8_type 17 = .ok (.iload 6, 2) := by decide +kernel
theorem dX8_type_19 : decode cX8_type 19 = .ok (.ifCond .ne 7, 3) := by decide +kernel
theorem dX8_type_22 : decode cX8_type 22 = .ok (.iconst 1, 1) := by decide +kernel
theorem dX8_type_23 : decode cX8_type 23 = .ok (.goto 41, 3) := by decide +kernel
theorem dX8_type_26 : decode cX8_type 26 = .ok (.aload_n 0, 1) := by decide +kernel
theorem dX8_type_27 : decode cX8_type 27 = .ok (.getfield 157, 3) := by decide +kernel
theorem dX8_type_30 : decode cX8_type 30 = .ok (.iload_n 1, 1) := by decide +kernel
theorem dX8_type_31 : decode cX8_type 31 = .ok (.iaload, 1) := by decide +kernel
theorem dX8_type_32 : decode cX8_type 32 = .ok (.iload_n 2, 1) := by decide +kernel
theorem dX8_type_33 : decode cX8_type 33 = .ok (.invokestatic 277, 3) := by decide +kernel
theorem dX8_type_36 : decode cX8_type 36 = .ok (.iadd, 1) := by decide +kernel
theorem dX8_type_37 : decode cX8_type 37 = .ok (.iload_n 3, 1) := by decide +kernel
theorem dX8_type_38 : decode cX8_type 38 = .ok (.invokestatic 277, 3) := by decide +kernel
theorem dX8_type_41 : decode cX8_type 41 = .ok (.iadd, 1) := by decide +kernel
theorem dX8_type_42 : decode cX8_type 42 = .ok (.iload 4, 2) := by decide +kernel
theorem dX8_type_44 : decode cX8_type 44 = .ok (.invokestatic 277, 3) := by decide +kernel
theorem dX8_type_47 : decode cX8_type 47 = .ok (.iadd, 1) := by decide +kernel
theorem dX8_type_48 : decode cX8_type 48 = .ok (.iload 5, 2) := by decide +kernel
theorem dX8_type_50 : decode cX8_type 50 = .ok (.invokestatic 277, 3) := by decide +kernel
theorem dX8_type_53 : decode cX8_type 53 = .ok (.iadd, 1) := by decide +kernel
theorem dX8_type_54 : decode cX8_type 54 = .ok (.bipush 40, 2) := by decide +kernel
theorem dX8_type_56 : decode cX8_type 56 = .ok (.if_icmp .le 7, 3) := by decide +kernel
theorem dX8_type_59 : decode cX8_type 59 = .ok (.iconst 2, 1) := by decide +kernel
theorem dX8_type_60 : decode cX8_type 60 = .ok (.goto 4, 3) := by decide +kernel
theorem dX8_type_63 : decode cX8_type 63 = .ok (.iconst 0, 1) := by decide +kernel
theorem dX8_type_64 : decode cX8_type 64 = .ok (.invokevirtual 227, 3) := by decide +kernel
theorem dX8_type_67 : decode cX8_type 67 = .ok (.ifCond .eq 5, 3) := by decide +kernel
theorem dX8_type_70 : decode cX8_type 70 = .ok (.iconst 0, 1) := by decide +kernel
theorem dX8_type_71 : decode cX8_type 71 = .ok (.ireturn, 1) := by decide +kernel
theorem dX8_type_72 : decode cX8_type 72 = .ok (.aload_n 0, 1) := by decide +kernel
theorem dX8_type_73 : decode cX8_type 73 = .ok (.iload_n 1, 1) := by decide +kernel
theorem dX8_type_74 : decode cX8_type 74 = .ok (.iload_n 2, 1) := by decide +kernel
theorem dX8_type_75 : decode cX8_type 75 = .ok (.aload_n 0, 1) := by decide +kernel
theorem dX8_type_76 : decode cX8_type 76 = .ok (.getfield 157, 3) := by decide +kernel
theorem dX8_type_79 : decode cX8_type 79 = .ok (.iload_n 1, 1) := by decide +kernel
theorem dX8_type_80 : decode cX8_type 80 = .ok (.iaload, 1) := by decide +kernel
theorem dX8_type_81 : decode cX8_type 81 = .ok (.invokevirtual 280, 3) := by decide +kernel
theorem dX8_type_84 : decode cX8_type 84 = .ok (.istore 7, 2) := by decide +kernel
theorem dX8_type_86 : decode cX8_type 86 = .ok (.aload_n 0, 1) := by decide +kernel
theorem dX8_type_87 : decode cX8_type 87 = .ok (.iload_n 1, 1) := by decide +kernel
theorem dX8_type_88 : decode cX8_type 88 = .ok (.iload_n 3, 1) := by decide +kernel
theorem dX8_type_89 : decode cX8_type 89 = .ok (.iload 7, 2) := by decide +kernel
theorem dX8_type_91 : decode cX8_type 91 = .ok (.invokevirtual 280, 3) := by decide +kernel
theorem dX8_type_94 : decode cX8_type 94 = .ok (.istore 7, 2) := by decide +kernel
theorem dX8_type_96 : decode cX8_type 96 = .ok (.aload_n 0, 1) := by decide +kernel
theorem dX8_type_97 : decode cX8_type 97 = .ok (.iload_n 1, 1) := by decide +kernel
theorem dX8_type_98 : decode cX8_type 98 = .ok (.iload 4, 2) := by decide +kernel
theorem dX8_type_100 : decode cX8_type 100 = .ok (.iload 7, 2) := by decide +kernel
theorem dX8_type_102 : decode cX8_type 102 = .ok (.invokevirtual 280, 3) := by decide +kernel
theorem dX8_type_105 : decode cX8_type 105 = .ok (.istore 7, 2) := by decide +kernel
theorem dX8_type_107 : decode cX8_type 107 = .ok (.aload_n 0, 1) := by decide +kernel
theorem dX8_type_108 : decode cX8_type 108 = .ok (.iload_n 1, 1) := by decide +kernel
theorem dX8_type_109 : decode cX8_type 109 = .ok (.iload 5, 2) := by decide +kernel
theorem dX8_type_111 : decode cX8_type 111 = .ok (.iload 7, 2) := by decide +kernel
theorem dX8_type_113 : decode cX8_type 113 = .ok (.invokevirtual 280, 3) := by decide +kernel
theorem dX8_type_116 : decode cX8_type 116 = .ok (.istore 7, 2) := by decide +kernel
theorem dX8_type_118 : decode cX8_type 118 = .ok (.aload_n 0, 1) := by decide +kernel
theorem dX8_type_119 : decode cX8_type 119 = .ok (.getfield 157, 3) := by decide +kernel
theorem dX8_type_122 : decode cX8_type 122 = .ok (.iload_n 1, 1) := by decide +kernel
theorem dX8_type_123 : decode cX8_type 123 = .ok (.iload 7, 2) := by decide +kernel
theorem dX8_type_125 : decode cX8_type 125 = .ok (.iastore, 1) := by decide +kernel
theorem dX8_type_126 : decode cX8_type 126 = .ok (.iload 7, 2) := by decide +kernel
theorem dX8_type_128 : decode cX8_type 128 = .ok (.ireturn, 1) := by decide +kernel
theorem dX8_erase_0 : decode cX8_erase 0 = .ok (.aload_n 0, 1) := by decide +kernel
theorem dX8_erase_1 : decode cX8_erase 1 = .ok (.iload_n 1, 1) := by decide +kernel
theorem dX8_erase_2 : decode cX8_erase 2 = .ok (.ifCond .eq 8, 3) := by decide +kernel
theorem dX8_erase_5 : decode cX8_erase 5 = .ok (.iload_n 1, 1) := by decide +kernel
theorem dX8_erase_6 : decode cX8_erase 6 = .ok (.iconst 1, 1) := by decide +kernel
theorem dX8_erase_7 : decode cX8_erase 7 = .ok (.if_icmp .ne 7, 3) := by decide +kernel
theorem dX8_erase_10 : decode cX8_erase 10 = .ok (.iconst 0, 1) := by decide +kernel
theorem dX8_erase_11 : decode cX8_erase 11 = .ok (.goto 4, 3) := by decide +kernel
theorem dX8_erase_14 : decode cX8_erase 14 = .ok (.iconst 1, 1) := by decide +kernel
theorem dX8_erase_15 : decode cX8_erase 15 = .ok (.invokevirtual 227, 3) := by decide +kernel
theorem dX8_erase_18 : decode cX8_erase 18 = .ok (.ifCond .eq 5, 3) := by decide +kernel
theorem dX8_erase_21 : decode cX8_erase 21 = .ok (.iconst 0, 1) := by decide +kernel
theorem dX8_erase_22 : decode cX8_erase 22 = .ok (.ireturn, 1) := by decide +kernel
theorem dX8_erase_23 : decode cX8_erase 23 = .ok (.aload_n 0, 1) := by decide +kernel
theorem dX8_erase_24 : decode cX8_erase 24 = .ok (.getfield 157, 3) := by decide +kernel
theorem dX8_erase_27 : decode cX8_erase 27 = .ok (.iload_n 1, 1) := by decide +kernel
theorem dX8_erase_28 : decode cX8_erase 28 = .ok (.iaload, 1) := by decide +kernel
theorem dX8_erase_29 : decode cX8_erase 29 = .ok (.istore_n 2, 1) := by decide +kernel
theorem dX8_erase_30 : decode cX8_erase 30 = .ok (.aload_n 0, 1) := by decide +kernel
theorem dX8_erase_31 : decode cX8_erase 31 = .ok (.getfield 157, 3) := by decide +kernel
theorem dX8_erase_34 : decode cX8_erase 34 = .ok (.iload_n 1, 1) := by decide +kernel
theorem dX8_erase_35 : decode cX8_erase 35 = .ok (.iconst 0, 1) := by decide +kernel
theorem dX8_erase_36 : decode cX8_erase 36 = .ok (.iastore, 1) := by decide +kernel
theorem dX8_erase_37 : decode cX8_erase 37 = .ok (.iload_n 2, 1) := by decide +kernel
theorem dX8_erase_38 : decode cX8_erase 38 = .ok (.ireturn, 1) := by decide +kernel
theorem dX8_put_0 : decode cX8_put 0 = .ok (.iload_n 1, 1) := by decide +kernel
theorem dX8_put_1 : decode cX8_put 1 = .ok (.ifCond .eq 8, 3) := by decide +kernel
theorem dX8_put_4 : decode cX8_put 4 = .ok (.iload_n 1, 1) := by decide +kernel
theorem dX8_put_5 : decode cX8_put 5 = .ok (.iconst 1, 1) := by decide +kernel
theorem dX8_put_6 : decode cX8_put 6 = .ok (.if_icmp .ne 19, 3) := by decide +kernel
theorem dX8_put_9 : decode cX8_put 9 = .ok (.iload_n 3, 1) := by decide +kernel
theorem dX8_put_10 : decode cX8_put 10 = .ok (.i2l, 1) := by decide +kernel
theorem dX8_put_11 : decode cX8_put 11 = .ok (.lconst 1, 1) := by decide +kernel
theorem dX8_put_12 : decode cX8_put 12 = .ok (.ldc2_w 189, 3) := by decide +kernel
theorem dX8_put_15 : decode cX8_put 15 = .ok (.invokestatic 223, 3) := by decide +kernel
theorem dX8_put_18 : decode cX8_put 18 = .ok (.ifCond .eq 7, 3) := by decide +kernel
theorem dX8_put_21 : decode cX8_put 21 = .ok (.iconst 1, 1) := by decide +kernel
theorem dX8_put_22 : decode cX8_put 22 = .ok (.goto 4, 3) := by decide +kernel
theorem dX8_put_25 : decode cX8_put 25 = .ok (.iconst 0, 1) := by decide +kernel
theorem dX8_put_26 : decode cX8_put 26 = .ok (.istore 4, 2) := by decide +kernel
theorem dX8_put_28 : decode cX8_put 28 = .ok (.aload_n 0, 1) := by decide +kernel
theorem dX8_put_29 : decode cX8_put 29 = .ok (.iload 4, 2) := by decide +kernel
theorem dX8_put_31 : decode cX8_put 31 = .ok (.ifCond .ne 7, 3) := by decide +kernel
theorem dX8_put_34 : decode cX8_put 34 = .ok (.iconst 1, 1) := by decide +kernel
theorem dX8_put_35 : decode cX8_put 35 = .ok (.goto 26, 3) := by decide +kernel
theorem dX8_put_38 : decode cX8_put 38 = .ok (.iload_n 2, 1) := by decide +kernel
theorem dX8_put_39 : decode cX8_put 39 = .ok (.i2l, 1) := by decide +kernel
theorem dX8_put_40 : decode cX8_put 40 = .ok (.lconst 0, 1) := by decide +kernel
theorem dX8_put_41 : decode cX8_put 41 = .ok (.aload_n 0, 1) := by decide +kernel
theorem dX8_put_42 : decode cX8_put 42 = .ok (.getfield 157, 3) := by decide +kernel
theorem dX8_put_45 : decode cX8_put 45 = .ok (.iload_n 1, 1) := by decide +kernel
theorem dX8_put_46 : decode cX8_put 46 = .ok (.iaload, 1) := by decide +kernel
theorem dX8_put_47 : decode cX8_put 47 = .ok (.iconst 1, 1) := by decide +kernel
theorem dX8_put_48 : decode cX8_put 48 = .ok (.isub, 1) := by decide +kernel
theorem dX8_put_49 : decode cX8_put 49 = .ok (.i2l, 1) := by decide +kernel
theorem dX8_put_50 : decode cX8_put 50 = .ok (.invokestatic 223, 3) := by decide +kernel
theorem dX8_put_53 : decode cX8_put 53 = .ok (.ifCond .ne 7, 3) := by decide +kernel
theorem dX8_put_56 : decode cX8_put 56 = .ok (.iconst 2, 1) := by decide +kernel
theorem dX8_put_57 : decode cX8_put 57 = .ok (.goto 4, 3) := by decide +kernel
theorem dX8_put_60 : decode cX8_put 60 = .ok (.iconst 0, 1) := by decide +kernel
theorem dX8_put_61 : decode cX8_put 61 = .ok (.invokevirtual 227, 3) := by decide +kernel
theorem dX8_put_64 : decode cX8_put 64 = .ok (.ifCond .eq 5, 3) := by decide +kernel
theorem dX8_put_67 : decode cX8_put 67 = .ok (.iconst 0, 1) := by decide +kernel
theorem dX8_put_68 : decode cX8_put 68 = .ok (.ireturn, 1) := by decide +kernel
theorem dX8_put_69 : decode cX8_put 69 = .ok (.aload_n 0, 1) := by decide +kernel
theorem dX8_put_70 : decode cX8_put 70 = .ok (.getfield 160, 3) := by decide +kernel
theorem dX8_put_73 : decode cX8_put 73 = .ok (.bipush 40, 2) := by decide +kernel
theorem dX8_put_75 : decode cX8_put 75 = .ok (.iload_n 1, 1) := by decide +kernel
theorem dX8_put_76 : decode cX8_put 76 = .ok (.imul, 1) := by decide +kernel
theorem dX8_put_77 : decode cX8_put 77 = .ok (.iload_n 2, 1) := by decide +kernel
theorem dX8_put_78 : decode cX8_put 78 = .ok (.iadd, 1) := by decide +kernel
theorem dX8_put_79 : decode cX8_put 79 = .ok (.iaload, 1) := by decide +kernel
theorem dX8_put_80 : decode cX8_put 80 = .ok (.istore 5, 2) := by decide +kernel
theorem dX8_put_82 : decode cX8_put 82 = .ok (.aload_n 0, 1) := by decide +kernel
theorem dX8_put_83 : decode cX8_put 83 = .ok (.getfield 160, 3) := by decide +kernel
theorem dX8_put_86 : decode cX8_put 86 = .ok (.bipush 40, 2) := by decide +kernel
theorem dX8_put_88 : decode cX8_put 88 = .ok (.iload_n 1, 1) := by decide +kernel
theorem dX8_put_89 : decode cX8_put 89 = .ok (.imul, 1) := by decide +kernel
theorem dX8_put_90 : decode cX8_put 90 = .ok (.iload_n 2, 1) := by decide +kernel
theorem dX8_put_91 : decode cX8_put 91 = .ok (.iadd, 1) := by decide +kernel
theorem dX8_put_92 : decode cX8_put 92 = .ok (.iload_n 3, 1) := by decide +kernel
theorem dX8_put_93 : decode cX8_put 93 = .ok (.iastore, 1) := by decide +kernel
theorem dX8_put_94 : decode cX8_put 94 = .ok (.iload 5, 2) := by decide +kernel
theorem dX8_put_96 : decode cX8_put 96 = .ok (.ireturn, 1) := by decide +kernel
theorem dX8_sign_0 : decode cX8_sign 0 = .ok (.aload_n 0, 1) := by decide +kernel
theorem dX8_sign_1 : decode cX8_sign 1 = .ok (.iload_n 1, 1) := by decide +kernel
theorem dX8_sign_2 : decode cX8_sign 2 = .ok (.ifCond .eq 8, 3) := by decide +kernel
theorem dX8_sign_5 : decode cX8_sign 5 = .ok (.iload_n 1, 1) := by decide +kernel
theorem dX8_sign_6 : decode cX8_sign 6 = .ok (.iconst 1, 1) := by decide +kernel
theorem dX8_sign_7 : decode cX8_sign 7 = .ok (.if_icmp .ne 7, 3) := by decide +kernel
theorem dX8_sign_10 : decode cX8_sign 10 = .ok (.iconst 0, 1) := by decide +kernel
theorem dX8_sign_11 : decode cX8_sign 11 = .ok (.goto 4, 3) := by decide +kernel
theorem dX8_sign_14 : decode cX8_sign 14 = .ok (.iconst 1, 1) := by decide +kernel
theorem dX8_sign_15 : decode cX8_sign 15 = .ok (.invokevirtual 227, 3) := by decide +kernel
theorem dX8_sign_18 : decode cX8_sign 18 = .ok (.ifCond .eq 5, 3) := by decide +kernel
theorem dX8_sign_21 : decode cX8_sign 21 = .ok (.iconst 0, 1) := by decide +kernel
theorem dX8_sign_22 : decode cX8_sign 22 = .ok (.ireturn, 1) := by decide +kernel
theorem dX8_sign_23 : decode cX8_sign 23 = .ok (.iload_n 2, 1) := by decide +kernel
theorem dX8_sign_24 : decode cX8_sign 24 = .ok (.i2l, 1) := by decide +kernel
theorem dX8_sign_25 : decode cX8_sign 25 = .ok (.lconst 0, 1) := by decide +kernel
theorem dX8_sign_26 : decode cX8_sign 26 = .ok (.aload_n 0, 1) := by decide +kernel
theorem dX8_sign_27 : decode cX8_sign 27 = .ok (.getfield 157, 3) := by decide +kernel
theorem dX8_sign_30 : decode cX8_sign 30 = .ok (.iload_n 1, 1) := by decide +kernel
theorem dX8_sign_31 : decode cX8_sign 31 = .ok (.iaload, 1) := by decide +kernel
theorem dX8_sign_32 : decode cX8_sign 32 = .ok (.iconst 1, 1) := by decide +kernel
theorem dX8_sign_33 : decode cX8_sign 33 = .ok (.isub, 1) := by decide +kernel
theorem dX8_sign_34 : decode cX8_sign 34 = .ok (.i2l, 1) := by decide +kernel
theorem dX8_sign_35 : decode cX8_sign 35 = .ok (.invokestatic 223, 3) := by decide +kernel
theorem dX8_sign_38 : decode cX8_sign 38 = .ok (.ifCond .eq 17, 3) := by decide +kernel
theorem dX8_sign_41 : decode cX8_sign 41 = .ok (.aload_n 0, 1) := by decide +kernel
theorem dX8_sign_42 : decode cX8_sign 42 = .ok (.getfield 160, 3) := by decide +kernel
theorem dX8_sign_45 : decode cX8_sign 45 = .ok (.bipush 40, 2) := by decide +kernel
theorem dX8_sign_47 : decode cX8_sign 47 = .ok (.iload_n 1, 1) := by decide +kernel
theorem dX8_sign_48 : decode cX8_sign 48 = .ok (.imul, 1) := by decide +kernel
theorem dX8_sign_49 : decode cX8_sign 49 = .ok (.iload_n 2, 1) := by decide +kernel
theorem dX8_sign_50 : decode cX8_sign 50 = .ok (.iadd, 1) := by decide +kernel
theorem dX8_sign_51 : decode cX8_sign 51 = .ok (.iaload, 1) := by decide +kernel
theorem dX8_sign_52 : decode cX8_sign 52 = .ok (.goto 4, 3) := by decide +kernel
theorem dX8_sign_55 : decode cX8_sign 55 = .ok (.iconst (-1), 1) := by decide +kernel
theorem dX8_sign_56 : decode cX8_sign 56 = .ok (.ireturn, 1) := by decide +kernel
theorem dX8_session_0 : decode cX8_session 0 = .ok (.aload_n 0, 1) := by decide +kernel
theorem dX8_session_1 : decode cX8_session 1 = .ok (.iload_n 1, 1) := by decide +kernel
theorem dX8_session_2 : decode cX8_session 2 = .ok (.i2l, 1) := by decide +kernel
theorem dX8_session_3 : decode cX8_session 3 = .ok (.lconst 0, 1) := by decide +kernel
theorem dX8_session_4 : decode cX8_session 4 = .ok (.ldc2_w 236, 3) := by decide +kernel
theorem dX8_session_7 : decode cX8_session 7 = .ok (.invokestatic 223, 3) := by decide +kernel
theorem dX8_session_10 : decode cX8_session 10 = .ok (.ifCond .eq 19, 3) := by decide +kernel
theorem dX8_session_13 : decode cX8_session 13 = .ok (.iload_n 2, 1) := by decide +kernel
theorem dX8_session_14 : decode cX8_session 14 = .ok (.i2l, 1) := by decide +kernel
theorem dX8_session_15 : decode cX8_session 15 = .ok (.lconst 0, 1) := by decide +kernel
theorem dX8_session_16 : decode cX8_session 16 = .ok (.ldc2_w 284, 3) := by decide +kernel
theorem dX8_session_19 : decode cX8_session 19 = .ok (.invokestatic 223, 3) := by decide +kernel
theorem dX8_session_22 : decode cX8_session 22 = .ok (.ifCond .eq 7, 3) := by decide +kernel
theorem dX8_session_25 : decode cX8_session 25 = .ok (.iconst 0, 1) := by decide +kernel
theorem dX8_session_26 : decode cX8_session 26 = .ok (.goto 4, 3) := by decide +kernel
theorem dX8_session_29 : decode cX8_session 29 = .ok (.iconst 1, 1) := by decide +kernel
theorem dX8_session_30 : decode cX8_session 30 = .ok (.invokevirtual 227, 3) := by decide +kernel
theorem dX8_session_33 : decode cX8_session 33 = .ok (.ifCond .eq 5, 3) := by decide +kernel
theorem dX8_session_36 : decode cX8_session 36 = .ok (.lconst 0, 1) := by decide +kernel
theorem dX8_session_37 : decode cX8_session 37 = .ok (.lreturn, 1) := by decide +kernel
theorem dX8_session_38 : decode cX8_session 38 = .ok (.aload_n 0, 1) := by decide +kernel
theorem dX8_session_39 : decode cX8_session 39 = .ok (.getfield 142, 3) := by decide +kernel
theorem dX8_session_42 : decode cX8_session 42 = .ok (.iload_n 1, 1) := by decide +kernel
theorem dX8_session_43 : decode cX8_session 43 = .ok (.baload, 1) := by decide +kernel
theorem dX8_session_44 : decode cX8_session 44 = .ok (.ifCond .ne 9, 3) := by decide +kernel
theorem dX8_session_47 : decode cX8_session 47 = .ok (.ldc2_w 286, 3) := by decide +kernel
theorem dX8_session_50 : decode cX8_session 50 = .ok (.goto 51, 3) := by decide +kernel
theorem dX8_session_53 : decode cX8_session 53 = .ok (.iload_n 2, 1) := by decide +kernel
theorem dX8_session_54 : decode cX8_session 54 = .ok (.ifCond .ne 13, 3) := by decide +kernel
theorem dX8_session_57 : decode cX8_session 57 = .ok (.aload_n 0, 1) := by decide +kernel
theorem dX8_session_58 : decode cX8_session 58 = .ok (.getfield 145, 3) := by decide +kernel
theorem dX8_session_61 : decode cX8_session 61 = .ok (.iload_n 1, 1) := by decide +kernel
theorem dX8_session_62 : decode cX8_session 62 = .ok (.iaload, 1) := by decide +kernel
theorem dX8_session_63 : decode cX8_session 63 = .ok (.i2l, 1) := by decide +kernel
theorem dX8_session_64 : decode cX8_session 64 = .ok (.goto 37, 3) := by decide +kernel
theorem dX8_session_67 : decode cX8_session 67 = .ok (.iload_n 2, 1) := by decide +kernel
theorem dX8_session_68 : decode cX8_session 68 = .ok (.iconst 1, 1) := by decide +kernel
theorem dX8_session_69 : decode cX8_session 69 = .ok (.if_icmp .ne 12, 3) := by decide +kernel
theorem dX8_session_72 : decode cX8_session 72 = .ok (.aload_n 0, 1) := by decide +kernel
theorem dX8_session_73 : decode cX8_session 73 = .ok (.getfield 148, 3) := by decide +kernel
theorem dX8_session_76 : decode cX8_session 76 = .ok (.iload_n 1, 1) := by decide +kernel
theorem dX8_session_77 : decode cX8_session 77 = .ok (.laload, 1) := by decide +kernel
theorem dX8_session_78 : decode cX8_session 78 = .ok (.goto 23, 3) := by decide +kernel
theorem dX8_session_81 : decode cX8_session 81 = .ok (.iload_n 2, 1) := by decide +kernel
theorem dX8_session_82 : decode cX8_session 82 = .ok (.iconst 2, 1) := by decide +kernel
theorem dX8_session_83 : decode cX8_session 83 = .ok (.if_icmp .ne 12, 3) := by decide +kernel
theorem dX8_session_86 : decode cX8_session 86 = .ok (.aload_n 0, 1) := by decide +kernel
theorem dX8_session_87 : decode cX8_session 87 = .ok (.getfield 151, 3) := by decide +kernel
theorem dX8_session_90 : decode cX8_session 90 = .ok (.iload_n 1, 1) := by decide +kernel
theorem dX8_session_91 : decode cX8_session 91 = .ok (.laload, 1) := by decide +kernel
theorem dX8_session_92 : decode cX8_session 92 = .ok (.goto 9, 3) := by decide +kernel
theorem dX8_session_95 : decode cX8_session 95 = .ok (.aload_n 0, 1) := by decide +kernel
theorem dX8_session_96 : decode cX8_session 96 = .ok (.getfield 154, 3) := by decide +kernel
theorem dX8_session_99 : decode cX8_session 99 = .ok (.iload_n 1, 1) := by decide +kernel
theorem dX8_session_100 : decode cX8_session 100 = .ok (.laload, 1) := by decide +kernel
theorem dX8_session_101 : decode cX8_session 101 = .ok (.lreturn, 1) := by decide +kernel
theorem dX8_count_0 : decode cX8_count 0 = .ok (.aload_n 0, 1) := by decide +kernel
theorem dX8_count_1 : decode cX8_count 1 = .ok (.iload_n 1, 1) := by decide +kernel
theorem dX8_count_2 : decode cX8_count 2 = .ok (.i2l, 1) := by decide +kernel
theorem dX8_count_3 : decode cX8_count 3 = .ok (.lconst 0, 1) := by decide +kernel
theorem dX8_count_4 : decode cX8_count 4 = .ok (.ldc2_w 288, 3) := by decide +kernel
theorem dX8_count_7 : decode cX8_count 7 = .ok (.invokestatic 223, 3) := by decide +kernel
theorem dX8_count_10 : decode cX8_count 10 = .ok (.ifCond .eq 7, 3) := by decide +kernel
theorem dX8_count_13 : decode cX8_count 13 = .ok (.iconst 0, 1) := by decide +kernel
theorem dX8_count_14 : decode cX8_count 14 = .ok (.goto 4, 3) := by decide +kernel
theorem dX8_count_17 : decode cX8_count 17 = .ok (.iconst 1, 1) := by decide +kernel
theorem dX8_count_18 : decode cX8_count 18 = .ok (.invokevirtual 227, 3) := by decide +kernel
theorem dX8_count_21 : decode cX8_count 21 = .ok (.ifCond .eq 5, 3) := by decide +kernel
theorem dX8_count_24 : decode cX8_count 24 = .ok (.iconst 0, 1) := by decide +kernel
theorem dX8_count_25 : decode cX8_count 25 = .ok (.ireturn, 1) := by decide +kernel
theorem dX8_count_26 : decode cX8_count 26 = .ok (.iconst 0, 1) := by decide +kernel
theorem dX8_count_27 : decode cX8_count 27 = .ok (.istore_n 2, 1) := by decide +kernel
theorem dX8_count_28 : decode cX8_count 28 = .ok (.iconst 0, 1) := by decide +kernel
theorem dX8_count_29 : decode cX8_count 29 = .ok (.istore_n 3, 1) := by decide +kernel
theorem dX8_count_30 : decode cX8_count 30 = .ok (.iload_n 3, 1) := by decide +kernel
theorem dX8_count_31 : decode cX8_count 31 = .ok (.bipush 8, 2) := by decide +kernel
theorem dX8_count_33 : decode cX8_count 33 = .ok (.if_icmp .ge 59, 3) := by decide +kernel
theorem dX8_count_36 : decode cX8_count 36 = .ok (.iload_n 2, 1) := by decide +kernel
theorem dX8_count_37 : decode cX8_count 37 = .ok (.iload_n 1, 1) := by decide +kernel
theorem dX8_count_38 : decode cX8_count 38 = .ok (.ifCond .ne 20, 3) := by decide +kernel
theorem dX8_count_41 : decode cX8_count 41 = .ok (.aload_n 0, 1) := by decide +kernel
theorem dX8_count_42 : decode cX8_count 42 = .ok (.getfield 142, 3) := by decide +kernel
theorem dX8_count_45 : decode cX8_count 45 = .ok (.iload_n 3, 1) := by decide +kernel
theorem dX8_count_46 : decode cX8_count 46 = .ok (.baload, 1) := by decide +kernel
theorem dX8_count_47 : decode cX8_count 47 = .ok (.ifCond .eq 7, 3) := by decide +kernel
theorem dX8_count_50 : decode cX8_count 50 = .ok (.iconst 1, 1) := by decide +kernel
theorem dX8_count_51 : decode cX8_count 51 = .ok (.goto 33, 3) := by decide +kernel
theorem dX8_count_54 : decode cX8_count 54 = .ok (.iconst 0, 1) := by decide +kernel
theorem dX8_count_55 : decode cX8_count 55 = .ok (.goto 29, 3) := by decide +kernel
theorem dX8_count_58 : decode cX8_count 58 = .ok (.iload_n 1, 1) := by decide +kernel
theorem dX8_count_59 : decode cX8_count 59 = .ok (.iconst 5, 1) := by decide +kernel
theorem dX8_count_60 : decode cX8_count 60 = .ok (.if_icmp .ne 23, 3) := by decide +kernel
theorem dX8_count_63 : decode cX8_count 63 = .ok (.iload_n 3, 1) := by decide +kernel
theorem dX8_count_64 : decode cX8_count 64 = .ok (.aload_n 0, 1) := by decide +kernel
theorem dX8_count_65 : decode cX8_count 65 = .ok (.getfield 118, 3) := by decide +kernel
theorem dX8_count_68 : decode cX8_count 68 = .ok (.if_icmp .ge 15, 3) := by decide +kernel
theorem dX8_count_71 : decode cX8_count 71 = .ok (.aload_n 0, 1) := by decide +kernel
theorem dX8_count_72 : decode cX8_count 72 = .ok (.iload_n 3, 1) := by decide +kernel
theorem dX8_count_73 : decode cX8_count 73 = .ok (.invokevirtual 261, 3) := by decide +kernel
theorem dX8_count_76 : decode cX8_count 76 = .ok (.ifCond .eq 7, 3) := by decide +kernel
theorem dX8_count_79 : decode cX8_count 79 = .ok (.iconst 1, 1) := by decide +kernel
theorem dX8_count_80 : decode cX8_count 80 = .ok (.goto 4, 3) := by decide +kernel
theorem dX8_count_83 : decode cX8_count 83 = .ok (.iconst 0, 1) := by decide +kernel
theorem dX8_count_84 : decode cX8_count 84 = .ok (.iadd, 1) := by decide +kernel
theorem dX8_count_85 : decode cX8_count 85 = .ok (.istore_n 2, 1) := by decide +kernel
theorem dX8_count_86 : decode cX8_count 86 = .ok (.iinc 3 1, 3) := by decide +kernel
theorem dX8_count_89 : decode cX8_count 89 = .ok (.goto (-59), 3) := by decide +kernel
theorem dX8_count_92 : decode cX8_count 92 = .ok (.iload_n 1, 1) := by decide +kernel
theorem dX8_count_93 : decode cX8_count 93 = .ok (.iconst 1, 1) := by decide +kernel
theorem dX8_count_94 : decode cX8_count 94 = .ok (.if_icmp .ne 11, 3) := by decide +kernel
theorem dX8_count_97 : decode cX8_count 97 = .ok (.aload_n 0, 1) := by decide +kernel
theorem dX8_count_98 : decode cX8_count 98 = .ok (.getfield 191, 3) := by decide +kernel
theorem dX8_count_101 : decode cX8_count 101 = .ok (.l2i, 1) := by decide +kernel
theorem dX8_count_102 : decode cX8_count 102 = .ok (.goto 60, 3) := by decide +kernel
theorem dX8_count_105 : decode cX8_count 105 = .ok (.iload_n 1, 1) := by decide +kernel
theorem dX8_count_106 : decode cX8_count 106 = .ok (.iconst 2, 1) := by decide +kernel
theorem dX8_count_107 : decode cX8_count 107 = .ok (.if_icmp .ne 10, 3) := by decide +kernel
theorem dX8_count_110 : decode cX8_count 110 = .ok (.aload_n 0, 1) := by decide +kernel
theorem dX8_count_111 : decode cX8_count 111 = .ok (.getfield 271, 3) := by decide +kernel
theorem dX8_count_114 : decode cX8_count 114 = .ok (.goto 48, 3) := by decide +kernel
theorem dX8_count_117 : decode cX8_count 117 = .ok (.iload_n 1, 1) := by decide +kernel
theorem dX8_count_118 : decode cX8_count 118 = .ok (.iconst 3, 1) := by decide +kernel
theorem dX8_count_119 : decode cX8_count 119 = .ok (.if_icmp .ne 10, 3) := by decide +kernel
theorem dX8_count_122 : decode cX8_count 122 = .ok (.aload_n 0, 1) := by decide +kernel
theorem dX8_count_123 : decode cX8_count 123 = .ok (.getfield 268, 3) := by decide +kernel
theorem dX8_count_126 : decode cX8_count 126 = .ok (.goto 36, 3) := by decide +kernel
theorem dX8_count_129 : decode cX8_count 129 = .ok (.iload_n 1, 1) := by decide +kernel
theorem dX8_count_130 : decode cX8_count 130 = .ok (.iconst 4, 1) := by decide +kernel
theorem dX8_count_131 : decode cX8_count 131 = .ok (.if_icmp .ne 10, 3) := by decide +kernel
theorem dX8_count_134 : decode cX8_count 134 = .ok (.aload_n 0, 1) := by decide +kernel
theorem dX8_count_135 : decode cX8_count 135 = .ok (.getfield 274, 3) := by decide +kernel
theorem dX8_count_138 : decode cX8_count 138 = .ok (.goto 24, 3) := by decide +kernel
theorem dX8_count_141 : decode cX8_count 141 = .ok (.iload_n 1, 1) := by decide +kernel
theorem dX8_count_142 : decode cX8_count 142 = .ok (.bipush 6, 2) := by decide +kernel
theorem dX8_count_144 : decode cX8_count 144 = .ok (.if_icmp .ne 17, 3) := by decide +kernel
theorem dX8_count_147 : decode cX8_count 147 = .ok (.aload_n 0, 1) := by decide +kernel
theorem dX8_count_148 : decode cX8_count 148 = .ok (.getfield 122, 3) := by decide +kernel
theorem dX8_count_151 : decode cX8_count 151 = .ok (.aload_n 0, 1) := by decide +kernel
theorem dX8_count_152 : decode cX8_count 152 = .ok (.getfield 118, 3) := by decide +kernel
theorem dX8_count_155 : decode cX8_count 155 = .ok (.iconst 1, 1) := by decide +kernel
theorem dX8_count_156 : decode cX8_count 156 = .ok (.isub, 1) := by decide +kernel
theorem dX8_count_157 : decode cX8_count 157 = .ok (.iaload, 1) := by decide +kernel
theorem dX8_count_158 : decode cX8_count 158 = .ok (.goto 4, 3) := by decide +kernel
theorem dX8_count_161 : decode cX8_count 161 = .ok (.iload_n 2, 1) := by decide +kernel
theorem dX8_count_162 : decode cX8_count 162 = .ok (.ireturn, 1) := by decide +kernel
theorem dX8_octet_0 : decode cX8_octet 0 = .ok (.aload_n 0, 1) := by decide +kernel
theorem dX8_octet_1 : decode cX8_octet 1 = .ok (.iload_n 1, 1) := by decide +kernel
theorem dX8_octet_2 : decode cX8_octet 2 = .ok (.i2l, 1) := by decide +kernel
theorem dX8_octet_3 : decode cX8_octet 3 = .ok (.lconst 0, 1) := by decide +kernel
theorem dX8_octet_4 : decode cX8_octet 4 = .ok (.ldc2_w 290, 3) := by decide +kernel
theorem dX8_octet_7 : decode cX8_octet 7 = .ok (.invokestatic 223, 3) := by decide +kernel
theorem dX8_octet_10 : decode cX8_octet 10 = .ok (.ifCond .eq 7, 3) := by decide +kernel
theorem dX8_octet_13 : decode cX8_octet 13 = .ok (.iconst 0, 1) := by decide +kernel
theorem dX8_octet_14 : decode cX8_octet 14 = .ok (.goto 4, 3) := by decide +kernel
theorem dX8_octet_17 : decode cX8_octet 17 = .ok (.iconst 1, 1) := by decide +kernel
theorem dX8_octet_18 : decode cX8_octet 18 = .ok (.invokevirtual 227, 3) := by decide +kernel
theorem dX8_octet_21 : decode cX8_octet 21 = .ok (.ifCond .eq 5, 3) := by decide +kernel
theorem dX8_octet_24 : decode cX8_octet 24 = .ok (.iconst 0, 1) := by decide +kernel
theorem dX8_octet_25 : decode cX8_octet 25 = .ok (.ireturn, 1) := by decide +kernel
theorem dX8_octet_26 : decode cX8_octet 26 = .ok (.aload_n 0, 1) := by decide +kernel
theorem dX8_octet_27 : decode cX8_octet 27 = .ok (.aload_n 0, 1) := by decide +kernel
theorem dX8_octet_28 : decode cX8_octet 28 = .ok (.getfield 118, 3) := by decide +kernel
theorem dX8_octet_31 : decode cX8_octet 31 = .ok (.iconst 1, 1) := by decide +kernel
theorem dX8_octet_32 : decode cX8_octet 32 = .ok (.isub, 1) := by decide +kernel
theorem dX8_octet_33 : decode cX8_octet 33 = .ok (.invokevirtual 204, 3) := by decide +kernel
theorem dX8_octet_36 : decode cX8_octet 36 = .ok (.aload_n 0, 1) := by decide +kernel
theorem dX8_octet_37 : decode cX8_octet 37 = .ok (.iconst 0, 1) := by decide +kernel
theorem dX8_octet_38 : decode cX8_octet 38 = .ok (.putfield 180, 3) := by decide +kernel
theorem dX8_octet_41 : decode cX8_octet 41 = .ok (.iconst 0, 1) := by decide +kernel
theorem dX8_octet_42 : decode cX8_octet 42 = .ok (.istore_n 2, 1) := by decide +kernel
theorem dX8_octet_43 : decode cX8_octet 43 = .ok (.iload_n 2, 1) := by decide +kernel
theorem dX8_octet_44 : decode cX8_octet 44 = .ok (.aload_n 0, 1) := by decide +kernel
theorem dX8_octet_45 : decode cX8_octet 45 = .ok (.getfield 157, 3) := by decide +kernel
theorem dX8_octet_48 : decode cX8_octet 48 = .ok (.iconst 0, 1) := by decide +kernel
theorem dX8_octet_49 : decode cX8_octet 49 = .ok (.iaload, 1) := by decide +kernel
theorem dX8_octet_50 : decode cX8_octet 50 = .ok (.if_icmp .ge 19, 3) := by decide +kernel
theorem dX8_octet_53 : decode cX8_octet 53 = .ok (.aload_n 0, 1) := by decide +kernel
theorem dX8_octet_54 : decode cX8_octet 54 = .ok (.aload_n 0, 1) := by decide +kernel
theorem dX8_octet_55 : decode cX8_octet 55 = .ok (.getfield 160, 3) := by decide +kernel
theorem dX8_octet_58 : decode cX8_octet 58 = .ok (.iload_n 2, 1) := by decide +kernel
theorem dX8_octet_59 : decode cX8_octet 59 = .ok (.iaload, 1) := by decide +kernel
theorem dX8_octet_60 : decode cX8_octet 60 = .ok (.invokevirtual 194, 3) := by decide +kernel
theorem dX8_octet_63 : decode cX8_octet 63 = .ok (.iinc 2 1, 3) := by decide +kernel
theorem dX8_octet_66 : decode cX8_octet 66 = .ok (.goto (-23), 3) := by decide +kernel
theorem dX8_octet_69 : decode cX8_octet 69 = .ok (.aload_n 0, 1) := by decide +kernel
theorem dX8_octet_70 : decode cX8_octet 70 = .ok (.invokevirtual 197, 3) := by decide +kernel
theorem dX8_octet_73 : decode cX8_octet 73 = .ok (.aload_n 0, 1) := by decide +kernel
theorem dX8_octet_74 : decode cX8_octet 74 = .ok (.getfield 97, 3) := by decide +kernel
theorem dX8_octet_77 : decode cX8_octet 77 = .ok (.iload_n 1, 1) := by decide +kernel
theorem dX8_octet_78 : decode cX8_octet 78 = .ok (.iaload, 1) := by decide +kernel
theorem dX8_octet_79 : decode cX8_octet 79 = .ok (.ireturn, 1) := by decide +kernel
theorem dL_pass_0 : decode cL_pass 0 = .ok (.aload_n 3, 1) := by decide +kernel
theorem dL_pass_1 : decode cL_pass 1 = .ok (.iconst 0, 1) := by decide +kernel
theorem dL_pass_2 : decode cL_pass 2 = .ok (.aload_n 0, 1) := by decide +kernel
theorem dL_pass_3 : decode cL_pass 3 = .ok (.lload_n 1, 1) := by decide +kernel
theorem dL_pass_4 : decode cL_pass 4 = .ok (.invokevirtual 7, 3) := by decide +kernel
theorem dL_pass_7 : decode cL_pass 7 = .ok (.lastore, 1) := by decide +kernel
theorem dL_pass_8 : decode cL_pass 8 = .ok (.goto 7, 3) := by decide +kernel
theorem dL_pass_11 : decode cL_pass 11 = .ok (.astore 4, 2) := by decide +kernel
theorem dL_pass_13 : decode cL_pass 13 = .ok (.iconst 1, 1) := by decide +kernel
theorem dL_pass_14 : decode cL_pass 14 = .ok (.ireturn, 1) := by decide +kernel
theorem dL_pass_15 : decode cL_pass 15 = .ok (.iconst 0, 1) := by decide +kernel
theorem dL_pass_16 : decode cL_pass 16 = .ok (.ireturn, 1) := by decide +kernel
theorem dL_limits_0 : decode cL_limits 0 = .ok (.aload_n 0, 1) := by decide +kernel
theorem dL_limits_1 : decode cL_limits 1 = .ok (.lload_n 1, 1) := by decide +kernel
theorem dL_limits_2 : decode cL_limits 2 = .ok (.lload_n 3, 1) := by decide +kernel
theorem dL_limits_3 : decode cL_limits 3 = .ok (.lload 5, 2) := by decide +kernel
theorem dL_limits_5 : decode cL_limits 5 = .ok (.invokevirtual 15, 3) := by decide +kernel
theorem dL_limits_8 : decode cL_limits 8 = .ok (.goto 7, 3) := by decide +kernel
theorem dL_limits_11 : decode cL_limits 11 = .ok (.astore 7, 2) := by decide +kernel
theorem dL_limits_13 : decode cL_limits 13 = .ok (.iconst 1, 1) := by decide +kernel
theorem dL_limits_14 : decode cL_limits 14 = .ok (.ireturn, 1) := by decide +kernel
theorem dL_limits_15 : decode cL_limits 15 = .ok (.iconst 0, 1) := by decide +kernel
theorem dL_limits_16 : decode cL_limits 16 = .ok (.ireturn, 1) := by decide +kernel
theorem dL_user_0 : decode cL_user 0 = .ok (.aload_n 0, 1) := by decide +kernel
theorem dL_user_1 : decode cL_user 1 = .ok (.iload_n 1, 1) := by decide +kernel
theorem dL_user_2 : decode cL_user 2 = .ok (.iload_n 2, 1) := by decide +kernel
theorem dL_user_3 : decode cL_user 3 = .ok (.iload_n 3, 1) := by decide +kernel
theorem dL_user_4 : decode cL_user 4 = .ok (.invokevirtual 19, 3) := by decide +kernel
theorem dL_user_7 : decode cL_user 7 = .ok (.goto 7, 3) := by decide +kernel
theorem dL_user_10 : decode cL_user 10 = .ok (.astore 4, 2) := by decide +kernel
theorem dL_user_12 : decode cL_user 12 = .ok (.iconst 1, 1) := by decide +kernel
theorem dL_user_13 : decode cL_user 13 = .ok (.ireturn, 1) := by decide +kernel
theorem dL_user_14 : decode cL_user 14 = .ok (.iconst 0, 1) := by decide +kernel
theorem dL_user_15 : decode cL_user 15 = .ok (.ireturn, 1) := by decide +kernel
theorem dL_login_0 : decode cL_login 0 = .ok (.aload 4, 2) := by decide +kernel
theorem dL_login_2 : decode cL_login 2 = .ok (.iconst 0, 1) := by decide +kernel
theorem dL_login_3 : decode cL_login 3 = .ok (.aload_n 0, 1) := by decide +kernel
theorem dL_login_4 : decode cL_login 4 = .ok (.iload_n 1, 1) := by decide +kernel
theorem dL_login_5 : decode cL_login 5 = .ok (.iload_n 2, 1) := by decide +kernel
theorem dL_login_6 : decode cL_login 6 = .ok (.iload_n 3, 1) := by decide +kernel
theorem dL_login_7 : decode cL_login 7 = .ok (.invokevirtual 23, 3) := by decide +kernel
theorem dL_login_10 : decode cL_login 10 = .ok (.i2l, 1) := by decide +kernel
theorem dL_login_11 : decode cL_login 11 = .ok (.lastore, 1) := by decide +kernel
theorem dL_login_12 : decode cL_login 12 = .ok (.goto 7, 3) := by decide +kernel
theorem dL_login_15 : decode cL_login 15 = .ok (.astore 5, 2) := by decide +kernel
theorem dL_login_17 : decode cL_login 17 = .ok (.iconst 1, 1) := by decide +kernel
theorem dL_login_18 : decode cL_login 18 = .ok (.ireturn, 1) := by decide +kernel
theorem dL_login_19 : decode cL_login 19 = .ok (.iconst 0, 1) := by decide +kernel
theorem dL_login_20 : decode cL_login 20 = .ok (.ireturn, 1) := by decide +kernel
theorem dL_revoke_0 : decode cL_revoke 0 = .ok (.aload_n 2, 1) := by decide +kernel
theorem dL_revoke_1 : decode cL_revoke 1 = .ok (.iconst 0, 1) := by decide +kernel
theorem dL_revoke_2 : decode cL_revoke 2 = .ok (.aload_n 0, 1) := by decide +kernel
theorem dL_revoke_3 : decode cL_revoke 3 = .ok (.iload_n 1, 1) := by decide +kernel
theorem dL_revoke_4 : decode cL_revoke 4 = .ok (.invokevirtual 27, 3) := by decide +kernel
theorem dL_revoke_7 : decode cL_revoke 7 = .ok (.i2l, 1) := by decide +kernel
theorem dL_revoke_8 : decode cL_revoke 8 = .ok (.lastore, 1) := by decide +kernel
theorem dL_revoke_9 : decode cL_revoke 9 = .ok (.goto 6, 3) := by decide +kernel
theorem dL_revoke_12 : decode cL_revoke 12 = .ok (.astore_n 3, 1) := by decide +kernel
theorem dL_revoke_13 : decode cL_revoke 13 = .ok (.iconst 1, 1) := by decide +kernel
theorem dL_revoke_14 : decode cL_revoke 14 = .ok (.ireturn, 1) := by decide +kernel
theorem dL_revoke_15 : decode cL_revoke 15 = .ok (.iconst 0, 1) := by decide +kernel
theorem dL_revoke_16 : decode cL_revoke 16 = .ok (.ireturn, 1) := by decide +kernel
theorem dL_type_0 : decode cL_type 0 = .ok (.aload 6, 2) := by decide +kernel
theorem dL_type_2 : decode cL_type 2 = .ok (.iconst 0, 1) := by decide +kernel
theorem dL_type_3 : decode cL_type 3 = .ok (.aload_n 0, 1) := by decide +kernel
theorem dL_type_4 : decode cL_type 4 = .ok (.iload_n 1, 1) := by decide +kernel
theorem dL_type_5 : decode cL_type 5 = .ok (.iload_n 2, 1) := by decide +kernel
theorem dL_type_6 : decode cL_type 6 = .ok (.iload_n 3, 1) := by decide +kernel
theorem dL_type_7 : decode cL_type 7 = .ok (.iload 4, 2) := by decide +kernel
theorem dL_type_9 : decode cL_type 9 = .ok (.iload 5, 2) := by decide +kernel
theorem dL_type_11 : decode cL_type 11 = .ok (.invokevirtual 31, 3) := by decide +kernel
theorem dL_type_14 : decode cL_type 14 = .ok (.i2l, 1) := by decide +kernel
theorem dL_type_15 : decode cL_type 15 = .ok (.lastore, 1) := by decide +kernel
theorem dL_type_16 : decode cL_type 16 = .ok (.goto 11, 3) := by decide +kernel
theorem dL_type_19 : decode cL_type 19 = .ok (.astore 7, 2) := by decide +kernel
theorem dL_type_21 : decode cL_type 21 = .ok (.iconst 1, 1) := by decide +kernel
theorem dL_type_22 : decode cL_type 22 = .ok (.ireturn, 1) := by decide +kernel
theorem dL_type_23 : decode cL_type 23 = .ok (.astore 7, 2) := by decide +kernel
theorem dL_type_25 : decode cL_type 25 = .ok (.iconst 2, 1) := by decide +kernel
theorem dL_type_26 : decode cL_type 26 = .ok (.ireturn, 1) := by decide +kernel
theorem dL_type_27 : decode cL_type 27 = .ok (.iconst 0, 1) := by decide +kernel
theorem dL_type_28 : decode cL_type 28 = .ok (.ireturn, 1) := by decide +kernel
theorem dL_erase_0 : decode cL_erase 0 = .ok (.aload_n 2, 1) := by decide +kernel
theorem dL_erase_1 : decode cL_erase 1 = .ok (.iconst 0, 1) := by decide +kernel
theorem dL_erase_2 : decode cL_erase 2 = .ok (.aload_n 0, 1) := by decide +kernel
theorem dL_erase_3 : decode cL_erase 3 = .ok (.iload_n 1, 1) := by decide +kernel
theorem dL_erase_4 : decode cL_erase 4 = .ok (.invokevirtual 37, 3) := by decide +kernel
theorem dL_erase_7 : decode cL_erase 7 = .ok (.i2l, 1) := by decide +kernel
theorem dL_erase_8 : decode cL_erase 8 = .ok (.lastore, 1) := by decide +kernel
theorem dL_erase_9 : decode cL_erase 9 = .ok (.goto 6, 3) := by decide +kernel
theorem dL_erase_12 : decode cL_erase 12 = .ok (.astore_n 3, 1) := by decide +kernel
theorem dL_erase_13 : decode cL_erase 13 = .ok (.iconst 1, 1) := by decide +kernel
theorem dL_erase_14 : decode cL_erase 14 = .ok (.ireturn, 1) := by decide +kernel
theorem dL_erase_15 : decode cL_erase 15 = .ok (.iconst 0, 1) := by decide +kernel
theorem dL_erase_16 : decode cL_erase 16 = .ok (.ireturn, 1) := by decide +kernel
theorem dL_put_0 : decode cL_put 0 = .ok (.aload 4, 2) := by decide +kernel
theorem dL_put_2 : decode cL_put 2 = .ok (.iconst 0, 1) := by decide +kernel
theorem dL_put_3 : decode cL_put 3 = .ok (.aload_n 0, 1) := by decide +kernel
theorem dL_put_4 : decode cL_put 4 = .ok (.iload_n 1, 1) := by decide +kernel
theorem dL_put_5 : decode cL_put 5 = .ok (.iload_n 2, 1) := by decide +kernel
theorem dL_put_6 : decode cL_put 6 = .ok (.iload_n 3, 1) := by decide +kernel
theorem dL_put_7 : decode cL_put 7 = .ok (.invokevirtual 40, 3) := by decide +kernel
theorem dL_put_10 : decode cL_put 10 = .ok (.i2l, 1) := by decide +kernel
theorem dL_put_11 : decode cL_put 11 = .ok (.lastore, 1) := by decide +kernel
theorem dL_put_12 : decode cL_put 12 = .ok (.goto 11, 3) := by decide +kernel
theorem dL_put_15 : decode cL_put 15 = .ok (.astore 5, 2) := by decide +kernel
theorem dL_put_17 : decode cL_put 17 = .ok (.iconst 1, 1) := by decide +kernel
theorem dL_put_18 : decode cL_put 18 = .ok (.ireturn, 1) := by decide +kernel
theorem dL_put_19 : decode cL_put 19 = .ok (.astore 5, 2) := by decide +kernel
theorem dL_put_21 : decode cL_put 21 = .ok (.iconst 2, 1) := by decide +kernel
theorem dL_put_22 : decode cL_put 22 = .ok (.ireturn, 1) := by decide +kernel
theorem dL_put_23 : decode cL_put 23 = .ok (.iconst 0, 1) := by decide +kernel
theorem dL_put_24 : decode cL_put 24 = .ok (.ireturn, 1) := by decide +kernel
theorem dL_sign_0 : decode cL_sign 0 = .ok (.aload_n 3, 1) := by decide +kernel
theorem dL_sign_1 : decode cL_sign 1 = .ok (.iconst 0, 1) := by decide +kernel
theorem dL_sign_2 : decode cL_sign 2 = .ok (.aload_n 0, 1) := by decide +kernel
theorem dL_sign_3 : decode cL_sign 3 = .ok (.iload_n 1, 1) := by decide +kernel
theorem dL_sign_4 : decode cL_sign 4 = .ok (.iload_n 2, 1) := by decide +kernel
theorem dL_sign_5 : decode cL_sign 5 = .ok (.invokevirtual 45, 3) := by decide +kernel
theorem dL_sign_8 : decode cL_sign 8 = .ok (.i2l, 1) := by decide +kernel
theorem dL_sign_9 : decode cL_sign 9 = .ok (.lastore, 1) := by decide +kernel
theorem dL_sign_10 : decode cL_sign 10 = .ok (.goto 7, 3) := by decide +kernel
theorem dL_sign_13 : decode cL_sign 13 = .ok (.astore 4, 2) := by decide +kernel
theorem dL_sign_15 : decode cL_sign 15 = .ok (.iconst 1, 1) := by decide +kernel
theorem dL_sign_16 : decode cL_sign 16 = .ok (.ireturn, 1) := by decide +kernel
theorem dL_sign_17 : decode cL_sign 17 = .ok (.iconst 0, 1) := by decide +kernel
theorem dL_sign_18 : decode cL_sign 18 = .ok (.ireturn, 1) := by decide +kernel
theorem dL_session_0 : decode cL_session 0 = .ok (.aload_n 3, 1) := by decide +kernel
theorem dL_session_1 : decode cL_session 1 = .ok (.iconst 0, 1) := by decide +kernel
theorem dL_session_2 : decode cL_session 2 = .ok (.aload_n 0, 1) := by decide +kernel
theorem dL_session_3 : decode cL_session 3 = .ok (.iload_n 1, 1) := by decide +kernel
theorem dL_session_4 : decode cL_session 4 = .ok (.iload_n 2, 1) := by decide +kernel
theorem dL_session_5 : decode cL_session 5 = .ok (.invokevirtual 49, 3) := by decide +kernel
theorem dL_session_8 : decode cL_session 8 = .ok (.lastore, 1) := by decide +kernel
theorem dL_session_9 : decode cL_session 9 = .ok (.goto 7, 3) := by decide +kernel
theorem dL_session_12 : decode cL_session 12 = .ok (.astore 4, 2) := by decide +kernel
theorem dL_session_14 : decode cL_session 14 = .ok (.iconst 1, 1) := by decide +kernel
theorem dL_session_15 : decode cL_session 15 = .ok (.ireturn, 1) := by decide +kernel
theorem dL_session_16 : decode cL_session 16 = .ok (.iconst 0, 1) := by decide +kernel
theorem dL_session_17 : decode cL_session 17 = .ok (.ireturn, 1) := by decide +kernel
theorem dL_count_0 : decode cL_count 0 = .ok (.aload_n 2, 1) := by decide +kernel
theorem dL_count_1 : decode cL_count 1 = .ok (.iconst 0, 1) := by decide +kernel
theorem dL_count_2 : decode cL_count 2 = .ok (.aload_n 0, 1) := by decide +kernel
theorem dL_count_3 : decode cL_count 3 = .ok (.iload_n 1, 1) := by decide +kernel
theorem dL_count_4 : decode cL_count 4 = .ok (.invokevirtual 53, 3) := by decide +kernel
theorem dL_count_7 : decode cL_count 7 = .ok (.i2l, 1) := by decide +kernel
theorem dL_count_8 : decode cL_count 8 = .ok (.lastore, 1) := by decide +kernel
theorem dL_count_9 : decode cL_count 9 = .ok (.goto 6, 3) := by decide +kernel
theorem dL_count_12 : decode cL_count 12 = .ok (.astore_n 3, 1) := by decide +kernel
theorem dL_count_13 : decode cL_count 13 = .ok (.iconst 1, 1) := by decide +kernel
theorem dL_count_14 : decode cL_count 14 = .ok (.ireturn, 1) := by decide +kernel
theorem dL_count_15 : decode cL_count 15 = .ok (.iconst 0, 1) := by decide +kernel
theorem dL_count_16 : decode cL_count 16 = .ok (.ireturn, 1) := by decide +kernel
theorem dL_octet_0 : decode cL_octet 0 = .ok (.aload_n 2, 1) := by decide +kernel
theorem dL_octet_1 : decode cL_octet 1 = .ok (.iconst 0, 1) := by decide +kernel
theorem dL_octet_2 : decode cL_octet 2 = .ok (.aload_n 0, 1) := by decide +kernel
theorem dL_octet_3 : decode cL_octet 3 = .ok (.iload_n 1, 1) := by decide +kernel
theorem dL_octet_4 : decode cL_octet 4 = .ok (.invokevirtual 56, 3) := by decide +kernel
theorem dL_octet_7 : decode cL_octet 7 = .ok (.i2l, 1) := by decide +kernel
theorem dL_octet_8 : decode cL_octet 8 = .ok (.lastore, 1) := by decide +kernel
theorem dL_octet_9 : decode cL_octet 9 = .ok (.goto 6, 3) := by decide +kernel
theorem dL_octet_12 : decode cL_octet 12 = .ok (.astore_n 3, 1) := by decide +kernel
theorem dL_octet_13 : decode cL_octet 13 = .ok (.iconst 1, 1) := by decide +kernel
theorem dL_octet_14 : decode cL_octet 14 = .ok (.ireturn, 1) := by decide +kernel
theorem dL_octet_15 : decode cL_octet 15 = .ok (.iconst 0, 1) := by decide +kernel
theorem dL_octet_16 : decode cL_octet 16 = .ok (.ireturn, 1) := by decide +kernel
