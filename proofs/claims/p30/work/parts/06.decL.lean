theorem dL_cell_0 : decode cL_cell 0 = .ok (.iload_n 1, 1) := by decide +kernel
theorem dL_cell_1 : decode cL_cell 1 = .ok (.aload_n 0, 1) := by decide +kernel
theorem dL_cell_2 : decode cL_cell 2 = .ok (.arraylength, 1) := by decide +kernel
theorem dL_cell_3 : decode cL_cell 3 = .ok (.if_icmp .ge 9, 3) := by decide +kernel
theorem dL_cell_6 : decode cL_cell 6 = .ok (.aload_n 0, 1) := by decide +kernel
theorem dL_cell_7 : decode cL_cell 7 = .ok (.iload_n 1, 1) := by decide +kernel
theorem dL_cell_8 : decode cL_cell 8 = .ok (.iaload, 1) := by decide +kernel
theorem dL_cell_9 : decode cL_cell 9 = .ok (.goto 16, 3) := by decide +kernel
theorem dL_cell_12 : decode cL_cell 12 = .ok (.ldc2_w 7, 3) := by decide +kernel
theorem dL_cell_15 : decode cL_cell 15 = .ok (.iload_n 1, 1) := by decide +kernel
theorem dL_cell_16 : decode cL_cell 16 = .ok (.sipush 139, 3) := by decide +kernel
theorem dL_cell_19 : decode cL_cell 19 = .ok (.iadd, 1) := by decide +kernel
theorem dL_cell_20 : decode cL_cell 20 = .ok (.i2l, 1) := by decide +kernel
theorem dL_cell_21 : decode cL_cell 21 = .ok (.lmul, 1) := by decide +kernel
theorem dL_cell_22 : decode cL_cell 22 = .ok (.iconst 4, 1) := by decide +kernel
theorem dL_cell_23 : decode cL_cell 23 = .ok (.lushr, 1) := by decide +kernel
theorem dL_cell_24 : decode cL_cell 24 = .ok (.l2i, 1) := by decide +kernel
theorem dL_cell_25 : decode cL_cell 25 = .ok (.ireturn, 1) := by decide +kernel
theorem dL_some_0 : decode cL_some 0 = .ok (.iload_n 0, 1) := by decide +kernel
theorem dL_some_1 : decode cL_some 1 = .ok (.iconst 2, 1) := by decide +kernel
theorem dL_some_2 : decode cL_some 2 = .ok (.iushr, 1) := by decide +kernel
theorem dL_some_3 : decode cL_some 3 = .ok (.iload_n 1, 1) := by decide +kernel
theorem dL_some_4 : decode cL_some 4 = .ok (.irem, 1) := by decide +kernel
theorem dL_some_5 : decode cL_some 5 = .ok (.ireturn, 1) := by decide +kernel
theorem dL_key_0 : decode cL_key 0 = .ok (.bipush 64, 2) := by decide +kernel
theorem dL_key_2 : decode cL_key 2 = .ok (.aload_n 0, 1) := by decide +kernel
theorem dL_key_3 : decode cL_key 3 = .ok (.bipush 40, 2) := by decide +kernel
theorem dL_key_5 : decode cL_key 5 = .ok (.iload_n 1, 1) := by decide +kernel
theorem dL_key_6 : decode cL_key 6 = .ok (.iadd, 1) := by decide +kernel
theorem dL_key_7 : decode cL_key 7 = .ok (.iaload, 1) := by decide +kernel
theorem dL_key_8 : decode cL_key 8 = .ok (.imul, 1) := by decide +kernel
theorem dL_key_9 : decode cL_key 9 = .ok (.iload_n 1, 1) := by decide +kernel
theorem dL_key_10 : decode cL_key 10 = .ok (.iadd, 1) := by decide +kernel
theorem dL_key_11 : decode cL_key 11 = .ok (.ireturn, 1) := by decide +kernel
theorem dL_ahead_0 : decode cL_ahead 0 = .ok (.iconst (-1), 1) := by decide +kernel
theorem dL_ahead_1 : decode cL_ahead 1 = .ok (.istore_n 3, 1) := by decide +kernel
theorem dL_ahead_2 : decode cL_ahead 2 = .ok (.iconst 0, 1) := by decide +kernel
theorem dL_ahead_3 : decode cL_ahead 3 = .ok (.istore 4, 2) := by decide +kernel
theorem dL_ahead_5 : decode cL_ahead 5 = .ok (.iload 4, 2) := by decide +kernel
theorem dL_ahead_7 : decode cL_ahead 7 = .ok (.aload_n 0, 1) := by decide +kernel
theorem dL_ahead_8 : decode cL_ahead 8 = .ok (.iconst 1, 1) := by decide +kernel
theorem dL_ahead_9 : decode cL_ahead 9 = .ok (.iaload, 1) := by decide +kernel
theorem dL_ahead_10 : decode cL_ahead 10 = .ok (.if_icmp .ge 76, 3) := by decide +kernel
theorem dL_ahead_13 : decode cL_ahead 13 = .ok (.aload_n 1, 1) := by decide +kernel
theorem dL_ahead_14 : decode cL_ahead 14 = .ok (.bipush 30, 2) := by decide +kernel
theorem dL_ahead_16 : decode cL_ahead 16 = .ok (.iload 4, 2) := by decide +kernel
theorem dL_ahead_18 : decode cL_ahead 18 = .ok (.iadd, 1) := by decide +kernel
theorem dL_ahead_19 : decode cL_ahead 19 = .ok (.iaload, 1) := by decide +kernel
theorem dL_ahead_20 : decode cL_ahead 20 = .ok (.aload_n 1, 1) := by decide +kernel
theorem dL_ahead_21 : decode cL_ahead 21 = .ok (.bipush 30, 2) := by decide +kernel
theorem dL_ahead_23 : decode cL_ahead 23 = .ok (.iload_n 2, 1) := by decide +kernel
theorem dL_ahead_24 : decode cL_ahead 24 = .ok (.iadd, 1) := by decide +kernel
theorem dL_ahead_25 : decode cL_ahead 25 = .ok (.iaload, 1) := by decide +kernel
theorem dL_ahead_26 : decode cL_ahead 26 = .ok (.if_icmp .ne 39, 3) := by decide +kernel
theorem dL_ahead_29 : decode cL_ahead 29 = .ok (.aload_n 1, 1) := by decide +kernel
theorem dL_ahead_30 : decode cL_ahead 30 = .ok (.iload 4, 2) := by decide +kernel
theorem dL_ahead_32 : decode cL_ahead 32 = .ok (.invokestatic 9, 3) := by decide +kernel
theorem dL_ahead_35 : decode cL_ahead 35 = .ok (.aload_n 1, 1) := by decide +kernel
theorem dL_ahead_36 : decode cL_ahead 36 = .ok (.iload_n 2, 1) := by decide +kernel
theorem dL_ahead_37 : decode cL_ahead 37 = .ok (.invokestatic 9, 3) := by decide +kernel
theorem dL_ahead_40 : decode cL_ahead 40 = .ok (.if_icmp .ge 25, 3) := by decide +kernel
theorem dL_ahead_43 : decode cL_ahead 43 = .ok (.iload_n 3, 1) := by decide +kernel
theorem dL_ahead_44 : decode cL_ahead 44 = .ok (.ifCond .lt 17, 3) := by decide +kernel
theorem dL_ahead_47 : decode cL_ahead 47 = .ok (.aload_n 1, 1) := by decide +kernel
theorem dL_ahead_48 : decode cL_ahead 48 = .ok (.iload 4, 2) := by decide +kernel
theorem dL_ahead_50 : decode cL_ahead 50 = .ok (.invokestatic 9, 3) := by decide +kernel
theorem dL_ahead_53 : decode cL_ahead 53 = .ok (.aload_n 1, 1) := by decide +kernel
theorem dL_ahead_54 : decode cL_ahead 54 = .ok (.iload_n 3, 1) := by decide +kernel
theorem dL_ahead_55 : decode cL_ahead 55 = .ok (.invokestatic 9, 3) := by decide +kernel
theorem dL_ahead_58 : decode cL_ahead 58 = .ok (.if_icmp .le 7, 3) := by decide +kernel
theorem dL_ahead_61 : decode cL_ahead 61 = .ok (.iconst 1, 1) := by decide +kernel
theorem dL_ahead_62 : decode cL_ahead 62 = .ok (.goto 4, 3) := by decide +kernel
theorem dL_ahead_65 : decode cL_ahead 65 = .ok (.iconst 0, 1) := by decide +kernel
theorem dL_ahead_66 : decode cL_ahead 66 = .ok (.istore 5, 2) := by decide +kernel
theorem dL_ahead_68 : decode cL_ahead 68 = .ok (.iload 5, 2) := by decide +kernel
theorem dL_ahead_70 : decode cL_ahead 70 = .ok (.ifCond .eq 8, 3) := by decide +kernel
theorem dL_ahead_73 : decode cL_ahead 73 = .ok (.iload 4, 2) := by decide +kernel
theorem dL_ahead_75 : decode cL_ahead 75 = .ok (.goto 4, 3) := by decide +kernel
theorem dL_ahead_78 : decode cL_ahead 78 = .ok (.iload_n 3, 1) := by decide +kernel
theorem dL_ahead_79 : decode cL_ahead 79 = .ok (.istore_n 3, 1) := by decide +kernel
theorem dL_ahead_80 : decode cL_ahead 80 = .ok (.iinc 4 1, 3) := by decide +kernel
theorem dL_ahead_83 : decode cL_ahead 83 = .ok (.goto (-78), 3) := by decide +kernel
theorem dL_ahead_86 : decode cL_ahead 86 = .ok (.iload_n 3, 1) := by decide +kernel
theorem dL_ahead_87 : decode cL_ahead 87 = .ok (.ireturn, 1) := by decide +kernel
theorem dL_broken_0 : decode cL_broken 0 = .ok (.aload_n 2, 1) := by decide +kernel
theorem dL_broken_1 : decode cL_broken 1 = .ok (.iconst 4, 1) := by decide +kernel
theorem dL_broken_2 : decode cL_broken 2 = .ok (.iload 4, 2) := by decide +kernel
theorem dL_broken_4 : decode cL_broken 4 = .ok (.iadd, 1) := by decide +kernel
theorem dL_broken_5 : decode cL_broken 5 = .ok (.iaload, 1) := by decide +kernel
theorem dL_broken_6 : decode cL_broken 6 = .ok (.istore 5, 2) := by decide +kernel
theorem dL_broken_8 : decode cL_broken 8 = .ok (.aload_n 1, 1) := by decide +kernel
theorem dL_broken_9 : decode cL_broken 9 = .ok (.bipush 50, 2) := by decide +kernel
theorem dL_broken_11 : decode cL_broken 11 = .ok (.iload_n 3, 1) := by decide +kernel
theorem dL_broken_12 : decode cL_broken 12 = .ok (.iadd, 1) := by decide +kernel
theorem dL_broken_13 : decode cL_broken 13 = .ok (.iaload, 1) := by decide +kernel
theorem dL_broken_14 : decode cL_broken 14 = .ok (.aload_n 1, 1) := by decide +kernel
theorem dL_broken_15 : decode cL_broken 15 = .ok (.bipush 40, 2) := by decide +kernel
theorem dL_broken_17 : decode cL_broken 17 = .ok (.iload_n 3, 1) := by decide +kernel
theorem dL_broken_18 : decode cL_broken 18 = .ok (.iadd, 1) := by decide +kernel
theorem dL_broken_19 : decode cL_broken 19 = .ok (.iaload, 1) := by decide +kernel
theorem dL_broken_20 : decode cL_broken 20 = .ok (.isub, 1) := by decide +kernel
theorem dL_broken_21 : decode cL_broken 21 = .ok (.istore 6, 2) := by decide +kernel
theorem dL_broken_23 : decode cL_broken 23 = .ok (.aload_n 1, 1) := by decide +kernel
theorem dL_broken_24 : decode cL_broken 24 = .ok (.bipush 30, 2) := by decide +kernel
theorem dL_broken_26 : decode cL_broken 26 = .ok (.iload_n 3, 1) := by decide +kernel
theorem dL_broken_27 : decode cL_broken 27 = .ok (.iadd, 1) := by decide +kernel
theorem dL_broken_28 : decode cL_broken 28 = .ok (.iaload, 1) := by decide +kernel
theorem dL_broken_29 : decode cL_broken 29 = .ok (.ifCond .lt 40, 3) := by decide +kernel
theorem dL_broken_32 : decode cL_broken 32 = .ok (.aload_n 2, 1) := by decide +kernel
theorem dL_broken_33 : decode cL_broken 33 = .ok (.bipush 16, 2) := by decide +kernel
theorem dL_broken_35 : decode cL_broken 35 = .ok (.iload 4, 2) := by decide +kernel
theorem dL_broken_37 : decode cL_broken 37 = .ok (.iadd, 1) := by decide +kernel
theorem dL_broken_38 : decode cL_broken 38 = .ok (.iaload, 1) := by decide +kernel
theorem dL_broken_39 : decode cL_broken 39 = .ok (.iconst 1, 1) := by decide +kernel
theorem dL_broken_40 : decode cL_broken 40 = .ok (.if_icmp .eq 29, 3) := by decide +kernel
theorem dL_broken_43 : decode cL_broken 43 = .ok (.aload_n 2, 1) := by decide +kernel
theorem dL_broken_44 : decode cL_broken 44 = .ok (.bipush 8, 2) := by decide +kernel
theorem dL_broken_46 : decode cL_broken 46 = .ok (.iload 4, 2) := by decide +kernel
theorem dL_broken_48 : decode cL_broken 48 = .ok (.iadd, 1) := by decide +kernel
theorem dL_broken_49 : decode cL_broken 49 = .ok (.iaload, 1) := by decide +kernel
theorem dL_broken_50 : decode cL_broken 50 = .ok (.ifCond .lt 21, 3) := by decide +kernel
theorem dL_broken_53 : decode cL_broken 53 = .ok (.aload_n 2, 1) := by decide +kernel
theorem dL_broken_54 : decode cL_broken 54 = .ok (.bipush 8, 2) := by decide +kernel
theorem dL_broken_56 : decode cL_broken 56 = .ok (.iload 4, 2) := by decide +kernel
theorem dL_broken_58 : decode cL_broken 58 = .ok (.iadd, 1) := by decide +kernel
theorem dL_broken_59 : decode cL_broken 59 = .ok (.iaload, 1) := by decide +kernel
theorem dL_broken_60 : decode cL_broken 60 = .ok (.aload_n 1, 1) := by decide +kernel
theorem dL_broken_61 : decode cL_broken 61 = .ok (.bipush 20, 2) := by decide +kernel
theorem dL_broken_63 : decode cL_broken 63 = .ok (.iload_n 3, 1) := by decide +kernel
theorem dL_broken_64 : decode cL_broken 64 = .ok (.iadd, 1) := by decide +kernel
theorem dL_broken_65 : decode cL_broken 65 = .ok (.iaload, 1) := by decide +kernel
theorem dL_broken_66 : decode cL_broken 66 = .ok (.if_icmp .eq 5, 3) := by decide +kernel
theorem dL_broken_69 : decode cL_broken 69 = .ok (.iconst 0, 1) := by decide +kernel
theorem dL_broken_70 : decode cL_broken 70 = .ok (.ireturn, 1) := by decide +kernel
theorem dL_broken_71 : decode cL_broken 71 = .ok (.aload_n 2, 1) := by decide +kernel
theorem dL_broken_72 : decode cL_broken 72 = .ok (.iload 4, 2) := by decide +kernel
theorem dL_broken_74 : decode cL_broken 74 = .ok (.iaload, 1) := by decide +kernel
theorem dL_broken_75 : decode cL_broken 75 = .ok (.ifCond .ne 41, 3) := by decide +kernel
theorem dL_broken_78 : decode cL_broken 78 = .ok (.aload_n 0, 1) := by decide +kernel
theorem dL_broken_79 : decode cL_broken 79 = .ok (.aload_n 1, 1) := by decide +kernel
theorem dL_broken_80 : decode cL_broken 80 = .ok (.iload_n 3, 1) := by decide +kernel
theorem dL_broken_81 : decode cL_broken 81 = .ok (.invokestatic 15, 3) := by decide +kernel
theorem dL_broken_84 : decode cL_broken 84 = .ok (.istore 7, 2) := by decide +kernel
theorem dL_broken_86 : decode cL_broken 86 = .ok (.iload 7, 2) := by decide +kernel
theorem dL_broken_88 : decode cL_broken 88 = .ok (.ifCond .lt 26, 3) := by decide +kernel
theorem dL_broken_91 : decode cL_broken 91 = .ok (.aload_n 1, 1) := by decide +kernel
theorem dL_broken_92 : decode cL_broken 92 = .ok (.bipush 40, 2) := by decide +kernel
theorem dL_broken_94 : decode cL_broken 94 = .ok (.iload_n 3, 1) := by decide +kernel
theorem dL_broken_95 : decode cL_broken 95 = .ok (.iadd, 1) := by decide +kernel
theorem dL_broken_96 : decode cL_broken 96 = .ok (.iaload, 1) := by decide +kernel
theorem dL_broken_97 : decode cL_broken 97 = .ok (.aload_n 1, 1) := by decide +kernel
theorem dL_broken_98 : decode cL_broken 98 = .ok (.bipush 50, 2) := by decide +kernel
theorem dL_broken_100 : decode cL_broken 100 = .ok (.iload 7, 2) := by decide +kernel
theorem dL_broken_102 : decode cL_broken 102 = .ok (.iadd, 1) := by decide +kernel
theorem dL_broken_103 : decode cL_broken 103 = .ok (.iaload, 1) := by decide +kernel
theorem dL_broken_104 : decode cL_broken 104 = .ok (.isub, 1) := by decide +kernel
theorem dL_broken_105 : decode cL_broken 105 = .ok (.iload 5, 2) := by decide +kernel
theorem dL_broken_107 : decode cL_broken 107 = .ok (.if_icmp .ge 7, 3) := by decide +kernel
theorem dL_broken_110 : decode cL_broken 110 = .ok (.iconst 1, 1) := by decide +kernel
theorem dL_broken_111 : decode cL_broken 111 = .ok (.goto 4, 3) := by decide +kernel
theorem dL_broken_114 : decode cL_broken 114 = .ok (.iconst 0, 1) := by decide +kernel
theorem dL_broken_115 : decode cL_broken 115 = .ok (.ireturn, 1) := by decide +kernel
theorem dL_broken_116 : decode cL_broken 116 = .ok (.aload_n 2, 1) := by decide +kernel
theorem dL_broken_117 : decode cL_broken 117 = .ok (.iload 4, 2) := by decide +kernel
theorem dL_broken_119 : decode cL_broken 119 = .ok (.iaload, 1) := by decide +kernel
theorem dL_broken_120 : decode cL_broken 120 = .ok (.iconst 1, 1) := by decide +kernel
theorem dL_broken_121 : decode cL_broken 121 = .ok (.if_icmp .ne 93, 3) := by decide +kernel
theorem dL_broken_124 : decode cL_broken 124 = .ok (.iload 6, 2) := by decide +kernel
theorem dL_broken_126 : decode cL_broken 126 = .ok (.istore 7, 2) := by decide +kernel
theorem dL_broken_128 : decode cL_broken 128 = .ok (.aload_n 0, 1) := by decide +kernel
theorem dL_broken_129 : decode cL_broken 129 = .ok (.aload_n 1, 1) := by decide +kernel
theorem dL_broken_130 : decode cL_broken 130 = .ok (.iload_n 3, 1) := by decide +kernel
theorem dL_broken_131 : decode cL_broken 131 = .ok (.invokestatic 15, 3) := by decide +kernel
theorem dL_broken_134 : decode cL_broken 134 = .ok (.istore 8, 2) := by decide +kernel
theorem dL_broken_136 : decode cL_broken 136 = .ok (.iload 8, 2) := by decide +kernel
theorem dL_broken_138 : decode cL_broken 138 = .ok (.ifCond .lt 63, 3) := by decide +kernel
theorem dL_broken_141 : decode cL_broken 141 = .ok (.iload 7, 2) := by decide +kernel
theorem dL_broken_143 : decode cL_broken 143 = .ok (.aload_n 1, 1) := by decide +kernel
theorem dL_broken_144 : decode cL_broken 144 = .ok (.bipush 40, 2) := by decide +kernel
theorem dL_broken_146 : decode cL_broken 146 = .ok (.iload 8, 2) := by decide +kernel
theorem dL_broken_148 : decode cL_broken 148 = .ok (.iadd, 1) := by decide +kernel
theorem dL_broken_149 : decode cL_broken 149 = .ok (.iaload, 1) := by decide +kernel
theorem dL_broken_150 : decode cL_broken 150 = .ok (.sipush 168, 3) := by decide +kernel
theorem dL_broken_153 : decode cL_broken 153 = .ok (.idiv, 1) := by decide +kernel
theorem dL_broken_154 : decode cL_broken 154 = .ok (.aload_n 1, 1) := by decide +kernel
theorem dL_broken_155 : decode cL_broken 155 = .ok (.bipush 40, 2) := by decide +kernel
theorem dL_broken_157 : decode cL_broken 157 = .ok (.iload_n 3, 1) := by decide +kernel
theorem dL_broken_158 : decode cL_broken 158 = .ok (.iadd, 1) := by decide +kernel
theorem dL_broken_159 : decode cL_broken 159 = .ok (.iaload, 1) := by decide +kernel
theorem dL_broken_160 : decode cL_broken 160 = .ok (.sipush 168, 3) := by decide +kernel
theorem dL_broken_163 : decode cL_broken 163 = .ok (.idiv, 1) := by decide +kernel
theorem dL_broken_164 : decode cL_broken 164 = .ok (.if_icmp .ne 21, 3) := by decide +kernel
theorem dL_broken_167 : decode cL_broken 167 = .ok (.aload_n 1, 1) := by decide +kernel
theorem dL_broken_168 : decode cL_broken 168 = .ok (.bipush 50, 2) := by decide +kernel
theorem dL_broken_170 : decode cL_broken 170 = .ok (.iload 8, 2) := by decide +kernel
theorem dL_broken_172 : decode cL_broken 172 = .ok (.iadd, 1) := by decide +kernel
theorem dL_broken_173 : decode cL_broken 173 = .ok (.iaload, 1) := by decide +kernel
theorem dL_broken_174 : decode cL_broken 174 = .ok (.aload_n 1, 1) := by decide +kernel
theorem dL_broken_175 : decode cL_broken 175 = .ok (.bipush 40, 2) := by decide +kernel
theorem dL_broken_177 : decode cL_broken 177 = .ok (.iload 8, 2) := by decide +kernel
theorem dL_broken_179 : decode cL_broken 179 = .ok (.iadd, 1) := by decide +kernel
theorem dL_broken_180 : decode cL_broken 180 = .ok (.iaload, 1) := by decide +kernel
theorem dL_broken_181 : decode cL_broken 181 = .ok (.isub, 1) := by decide +kernel
theorem dL_broken_182 : decode cL_broken 182 = .ok (.goto 4, 3) := by decide +kernel
theorem dL_broken_185 : decode cL_broken 185 = .ok (.iconst 0, 1) := by decide +kernel
theorem dL_broken_186 : decode cL_broken 186 = .ok (.iadd, 1) := by decide +kernel
theorem dL_broken_187 : decode cL_broken 187 = .ok (.istore 7, 2) := by decide +kernel
theorem dL_broken_189 : decode cL_broken 189 = .ok (.aload_n 0, 1) := by decide +kernel
theorem dL_broken_190 : decode cL_broken 190 = .ok (.aload_n 1, 1) := by decide +kernel
theorem dL_broken_191 : decode cL_broken 191 = .ok (.iload 8, 2) := by decide +kernel
theorem dL_broken_193 : decode cL_broken 193 = .ok (.invokestatic 15, 3) := by decide +kernel
theorem dL_broken_196 : decode cL_broken 196 = .ok (.istore 8, 2) := by decide +kernel
theorem dL_broken_198 : decode cL_broken 198 = .ok (.goto (-62), 3) := by decide +kernel
theorem dL_broken_201 : decode cL_broken 201 = .ok (.iload 7, 2) := by decide +kernel
theorem dL_broken_203 : decode cL_broken 203 = .ok (.iload 5, 2) := by decide +kernel
theorem dL_broken_205 : decode cL_broken 205 = .ok (.if_icmp .le 7, 3) := by decide +kernel
theorem dL_broken_208 : decode cL_broken 208 = .ok (.iconst 1, 1) := by decide +kernel
theorem dL_broken_209 : decode cL_broken 209 = .ok (.goto 4, 3) := by decide +kernel
theorem dL_broken_212 : decode cL_broken 212 = .ok (.iconst 0, 1) := by decide +kernel
theorem dL_broken_213 : decode cL_broken 213 = .ok (.ireturn, 1) := by decide +kernel
theorem dL_broken_214 : decode cL_broken 214 = .ok (.aload_n 2, 1) := by decide +kernel
theorem dL_broken_215 : decode cL_broken 215 = .ok (.iload 4, 2) := by decide +kernel
theorem dL_broken_217 : decode cL_broken 217 = .ok (.iaload, 1) := by decide +kernel
theorem dL_broken_218 : decode cL_broken 218 = .ok (.iconst 3, 1) := by decide +kernel
theorem dL_broken_219 : decode cL_broken 219 = .ok (.if_icmp .ne 16, 3) := by decide +kernel
theorem dL_broken_222 : decode cL_broken 222 = .ok (.iload 6, 2) := by decide +kernel
theorem dL_broken_224 : decode cL_broken 224 = .ok (.iload 5, 2) := by decide +kernel
theorem dL_broken_226 : decode cL_broken 226 = .ok (.if_icmp .le 7, 3) := by decide +kernel
theorem dL_broken_229 : decode cL_broken 229 = .ok (.iconst 1, 1) := by decide +kernel
theorem dL_broken_230 : decode cL_broken 230 = .ok (.goto 4, 3) := by decide +kernel
theorem dL_broken_233 : decode cL_broken 233 = .ok (.iconst 0, 1) := by decide +kernel
theorem dL_broken_234 : decode cL_broken 234 = .ok (.ireturn, 1) := by decide +kernel
theorem dL_broken_235 : decode cL_broken 235 = .ok (.iconst 0, 1) := by decide +kernel
theorem dL_broken_236 : decode cL_broken 236 = .ok (.istore 7, 2) := by decide +kernel
theorem dL_broken_238 : decode cL_broken 238 = .ok (.iconst 1, 1) := by decide +kernel
theorem dL_broken_239 : decode cL_broken 239 = .ok (.istore 8, 2) := by decide +kernel
theorem dL_broken_241 : decode cL_broken 241 = .ok (.iload 8, 2) := by decide +kernel
theorem dL_broken_243 : decode cL_broken 243 = .ok (.ifCond .eq 103, 3) := by decide +kernel
theorem dL_broken_246 : decode cL_broken 246 = .ok (.iload 7, 2) := by decide +kernel
theorem dL_broken_248 : decode cL_broken 248 = .ok (.iload 5, 2) := by decide +kernel
theorem dL_broken_250 : decode cL_broken 250 = .ok (.if_icmp .ge 96, 3) := by decide +kernel
theorem dL_broken_253 : decode cL_broken 253 = .ok (.iconst 0, 1) := by decide +kernel
theorem dL_broken_254 : decode cL_broken 254 = .ok (.istore 8, 2) := by decide +kernel
theorem dL_broken_256 : decode cL_broken 256 = .ok (.iconst 0, 1) := by decide +kernel
theorem dL_broken_257 : decode cL_broken 257 = .ok (.istore 9, 2) := by decide +kernel
theorem dL_broken_259 : decode cL_broken 259 = .ok (.iload 9, 2) := by decide +kernel
theorem dL_broken_261 : decode cL_broken 261 = .ok (.aload_n 0, 1) := by decide +kernel
theorem dL_broken_262 : decode cL_broken 262 = .ok (.iconst 1, 1) := by decide +kernel
theorem dL_broken_263 : decode cL_broken 263 = .ok (.iaload, 1) := by decide +kernel
theorem dL_broken_264 : decode cL_broken 264 = .ok (.if_icmp .ge 64, 3) := by decide +kernel
theorem dL_broken_267 : decode cL_broken 267 = .ok (.iload 8, 2) := by decide +kernel
theorem dL_broken_269 : decode cL_broken 269 = .ok (.ifCond .ne 46, 3) := by decide +kernel
theorem dL_broken_272 : decode cL_broken 272 = .ok (.aload_n 1, 1) := by decide +kernel
theorem dL_broken_273 : decode cL_broken 273 = .ok (.bipush 30, 2) := by decide +kernel
theorem dL_broken_275 : decode cL_broken 275 = .ok (.iload 9, 2) := by decide +kernel
theorem dL_broken_277 : decode cL_broken 277 = .ok (.iadd, 1) := by decide +kernel
theorem dL_broken_278 : decode cL_broken 278 = .ok (.iaload, 1) := by decide +kernel
theorem dL_broken_279 : decode cL_broken 279 = .ok (.aload_n 1, 1) := by decide +kernel
theorem dL_broken_280 : decode cL_broken 280 = .ok (.bipush 30, 2) := by decide +kernel
theorem dL_broken_282 : decode cL_broken 282 = .ok (.iload_n 3, 1) := by decide +kernel
theorem dL_broken_283 : decode cL_broken 283 = .ok (.iadd, 1) := by decide +kernel
theorem dL_broken_284 : decode cL_broken 284 = .ok (.iaload, 1) := by decide +kernel
theorem dL_broken_285 : decode cL_broken 285 = .ok (.if_icmp .ne 34, 3) := by decide +kernel
theorem dL_broken_288 : decode cL_broken 288 = .ok (.aload_n 1, 1) := by decide +kernel
theorem dL_broken_289 : decode cL_broken 289 = .ok (.bipush 40, 2) := by decide +kernel
theorem dL_broken_291 : decode cL_broken 291 = .ok (.iload 9, 2) := by decide +kernel
theorem dL_broken_293 : decode cL_broken 293 = .ok (.iadd, 1) := by decide +kernel
theorem dL_broken_294 : decode cL_broken 294 = .ok (.iaload, 1) := by decide +kernel
theorem dL_broken_295 : decode cL_broken 295 = .ok (.bipush 24, 2) := by decide +kernel
theorem dL_broken_297 : decode cL_broken 297 = .ok (.idiv, 1) := by decide +kernel
theorem dL_broken_298 : decode cL_broken 298 = .ok (.aload_n 1, 1) := by decide +kernel
theorem dL_broken_299 : decode cL_broken 299 = .ok (.bipush 40, 2) := by decide +kernel
theorem dL_broken_301 : decode cL_broken 301 = .ok (.iload_n 3, 1) := by decide +kernel
theorem dL_broken_302 : decode cL_broken 302 = .ok (.iadd, 1) := by decide +kernel
theorem dL_broken_303 : decode cL_broken 303 = .ok (.iaload, 1) := by decide +kernel
theorem dL_broken_304 : decode cL_broken 304 = .ok (.bipush 24, 2) := by decide +kernel
theorem dL_broken_306 : decode cL_broken 306 = .ok (.idiv, 1) := by decide +kernel
theorem dL_broken_307 : decode cL_broken 307 = .ok (.iload 7, 2) := by decide +kernel
theorem dL_broken_309 : decode cL_broken 309 = .ok (.isub, 1) := by decide +kernel
theorem dL_broken_310 : decode cL_broken 310 = .ok (.iconst 1, 1) := by decide +kernel
theorem dL_broken_311 : decode cL_broken 311 = .ok (.isub, 1) := by decide +kernel
theorem dL_broken_312 : decode cL_broken 312 = .ok (.if_icmp .ne 7, 3) := by decide +kernel
theorem dL_broken_315 : decode cL_broken 315 = .ok (.iconst 1, 1) := by decide +kernel
theorem dL_broken_316 : decode cL_broken 316 = .ok (.goto 4, 3) := by decide +kernel
theorem dL_broken_319 : decode cL_broken 319 = .ok (.iconst 0, 1) := by decide +kernel
theorem dL_broken_320 : decode cL_broken 320 = .ok (.istore 8, 2) := by decide +kernel
theorem dL_broken_322 : decode cL_broken 322 = .ok (.iinc 9 1, 3) := by decide +kernel
theorem dL_broken_325 : decode cL_broken 325 = .ok (.goto (-66), 3) := by decide +kernel
theorem dL_broken_328 : decode cL_broken 328 = .ok (.iload 7, 2) := by decide +kernel
theorem dL_broken_330 : decode cL_broken 330 = .ok (.iload 8, 2) := by decide +kernel
theorem dL_broken_332 : decode cL_broken 332 = .ok (.ifCond .eq 7, 3) := by decide +kernel
theorem dL_broken_335 : decode cL_broken 335 = .ok (.iconst 1, 1) := by decide +kernel
theorem dL_broken_336 : decode cL_broken 336 = .ok (.goto 4, 3) := by decide +kernel
theorem dL_broken_339 : decode cL_broken 339 = .ok (.iconst 0, 1) := by decide +kernel
theorem dL_broken_340 : decode cL_broken 340 = .ok (.iadd, 1) := by decide +kernel
theorem dL_broken_341 : decode cL_broken 341 = .ok (.istore 7, 2) := by decide +kernel
theorem dL_broken_343 : decode cL_broken 343 = .ok (.goto (-102), 3) := by decide +kernel
theorem dL_broken_346 : decode cL_broken 346 = .ok (.iload 7, 2) := by decide +kernel
theorem dL_broken_348 : decode cL_broken 348 = .ok (.iload 5, 2) := by decide +kernel
theorem dL_broken_350 : decode cL_broken 350 = .ok (.if_icmp .ne 7, 3) := by decide +kernel
theorem dL_broken_353 : decode cL_broken 353 = .ok (.iconst 1, 1) := by decide +kernel
theorem dL_broken_354 : decode cL_broken 354 = .ok (.goto 4, 3) := by decide +kernel
theorem dL_broken_357 : decode cL_broken 357 = .ok (.iconst 0, 1) := by decide +kernel
theorem dL_broken_358 : decode cL_broken 358 = .ok (.ireturn, 1) := by decide +kernel
theorem dL_judge_0 : decode cL_judge 0 = .ok (.iconst 0, 1) := by decide +kernel
theorem dL_judge_1 : decode cL_judge 1 = .ok (.istore 5, 2) := by decide +kernel
theorem dL_judge_3 : decode cL_judge 3 = .ok (.iconst 0, 1) := by decide +kernel
theorem dL_judge_4 : decode cL_judge 4 = .ok (.istore 6, 2) := by decide +kernel
theorem dL_judge_6 : decode cL_judge 6 = .ok (.iload 6, 2) := by decide +kernel
theorem dL_judge_8 : decode cL_judge 8 = .ok (.aload_n 0, 1) := by decide +kernel
theorem dL_judge_9 : decode cL_judge 9 = .ok (.iconst 3, 1) := by decide +kernel
theorem dL_judge_10 : decode cL_judge 10 = .ok (.iaload, 1) := by decide +kernel
theorem dL_judge_11 : decode cL_judge 11 = .ok (.if_icmp .ge 80, 3) := by decide +kernel
theorem dL_judge_14 : decode cL_judge 14 = .ok (.aload_n 3, 1) := by decide +kernel
theorem dL_judge_15 : decode cL_judge 15 = .ok (.iload 6, 2) := by decide +kernel
theorem dL_judge_17 : decode cL_judge 17 = .ok (.iaload, 1) := by decide +kernel
theorem dL_judge_18 : decode cL_judge 18 = .ok (.bipush 100, 2) := by decide +kernel
theorem dL_judge_20 : decode cL_judge 20 = .ok (.idiv, 1) := by decide +kernel
theorem dL_judge_21 : decode cL_judge 21 = .ok (.bipush 100, 2) := by decide +kernel
theorem dL_judge_23 : decode cL_judge 23 = .ok (.irem, 1) := by decide +kernel
theorem dL_judge_24 : decode cL_judge 24 = .ok (.istore 7, 2) := by decide +kernel
theorem dL_judge_26 : decode cL_judge 26 = .ok (.aload 4, 2) := by decide +kernel
theorem dL_judge_28 : decode cL_judge 28 = .ok (.iload 6, 2) := by decide +kernel
theorem dL_judge_30 : decode cL_judge 30 = .ok (.iaload, 1) := by decide +kernel
theorem dL_judge_31 : decode cL_judge 31 = .ok (.iconst 4, 1) := by decide +kernel
theorem dL_judge_32 : decode cL_judge 32 = .ok (.irem, 1) := by decide +kernel
theorem dL_judge_33 : decode cL_judge 33 = .ok (.iconst 2, 1) := by decide +kernel
theorem dL_judge_34 : decode cL_judge 34 = .ok (.if_icmp .ge 51, 3) := by decide +kernel
theorem dL_judge_37 : decode cL_judge 37 = .ok (.aload_n 1, 1) := by decide +kernel
theorem dL_judge_38 : decode cL_judge 38 = .ok (.bipush 30, 2) := by decide +kernel
theorem dL_judge_40 : decode cL_judge 40 = .ok (.iload 7, 2) := by decide +kernel
theorem dL_judge_42 : decode cL_judge 42 = .ok (.iadd, 1) := by decide +kernel
theorem dL_judge_43 : decode cL_judge 43 = .ok (.iaload, 1) := by decide +kernel
theorem dL_judge_44 : decode cL_judge 44 = .ok (.aload_n 3, 1) := by decide +kernel
theorem dL_judge_45 : decode cL_judge 45 = .ok (.iload 6, 2) := by decide +kernel
theorem dL_judge_47 : decode cL_judge 47 = .ok (.iaload, 1) := by decide +kernel
theorem dL_judge_48 : decode cL_judge 48 = .ok (.sipush 10000, 3) := by decide +kernel
theorem dL_judge_51 : decode cL_judge 51 = .ok (.idiv, 1) := by decide +kernel
theorem dL_judge_52 : decode cL_judge 52 = .ok (.if_icmp .ne 21, 3) := by decide +kernel
theorem dL_judge_55 : decode cL_judge 55 = .ok (.aload_n 0, 1) := by decide +kernel
theorem dL_judge_56 : decode cL_judge 56 = .ok (.aload_n 1, 1) := by decide +kernel
theorem dL_judge_57 : decode cL_judge 57 = .ok (.aload_n 2, 1) := by decide +kernel
theorem dL_judge_58 : decode cL_judge 58 = .ok (.iload 7, 2) := by decide +kernel
theorem dL_judge_60 : decode cL_judge 60 = .ok (.aload_n 3, 1) := by decide +kernel
theorem dL_judge_61 : decode cL_judge 61 = .ok (.iload 6, 2) := by decide +kernel
theorem dL_judge_63 : decode cL_judge 63 = .ok (.iaload, 1) := by decide +kernel
theorem dL_judge_64 : decode cL_judge 64 = .ok (.bipush 100, 2) := by decide +kernel
theorem dL_judge_66 : decode cL_judge 66 = .ok (.irem, 1) := by decide +kernel
theorem dL_judge_67 : decode cL_judge 67 = .ok (.invokestatic 19, 3) := by decide +kernel
theorem dL_judge_70 : decode cL_judge 70 = .ok (.ifCond .ne 15, 3) := by decide +kernel
theorem dL_judge_73 : decode cL_judge 73 = .ok (.aload 4, 2) := by decide +kernel
theorem dL_judge_75 : decode cL_judge 75 = .ok (.iload 6, 2) := by decide +kernel
theorem dL_judge_77 : decode cL_judge 77 = .ok (.dup2, 1) := by decide +kernel
theorem dL_judge_78 : decode cL_judge 78 = .ok (.iaload, 1) := by decide +kernel
theorem dL_judge_79 : decode cL_judge 79 = .ok (.iconst 2, 1) := by decide +kernel
theorem dL_judge_80 : decode cL_judge 80 = .ok (.iadd, 1) := by decide +kernel
theorem dL_judge_81 : decode cL_judge 81 = .ok (.iastore, 1) := by decide +kernel
theorem dL_judge_82 : decode cL_judge 82 = .ok (.iinc 5 1, 3) := by decide +kernel
theorem dL_judge_85 : decode cL_judge 85 = .ok (.iinc 6 1, 3) := by decide +kernel
theorem dL_judge_88 : decode cL_judge 88 = .ok (.goto (-82), 3) := by decide +kernel
theorem dL_judge_91 : decode cL_judge 91 = .ok (.iconst 0, 1) := by decide +kernel
theorem dL_judge_92 : decode cL_judge 92 = .ok (.istore 6, 2) := by decide +kernel
theorem dL_judge_94 : decode cL_judge 94 = .ok (.iload 6, 2) := by decide +kernel
theorem dL_judge_96 : decode cL_judge 96 = .ok (.aload_n 0, 1) := by decide +kernel
theorem dL_judge_97 : decode cL_judge 97 = .ok (.iconst 1, 1) := by decide +kernel
theorem dL_judge_98 : decode cL_judge 98 = .ok (.iaload, 1) := by decide +kernel
theorem dL_judge_99 : decode cL_judge 99 = .ok (.if_icmp .ge 152, 3) := by decide +kernel
theorem dL_judge_102 : decode cL_judge 102 = .ok (.iconst 0, 1) := by decide +kernel
theorem dL_judge_103 : decode cL_judge 103 = .ok (.istore 7, 2) := by decide +kernel
theorem dL_judge_105 : decode cL_judge 105 = .ok (.iload 7, 2) := by decide +kernel
theorem dL_judge_107 : decode cL_judge 107 = .ok (.aload_n 0, 1) := by decide +kernel
theorem dL_judge_108 : decode cL_judge 108 = .ok (.iconst 2, 1) := by decide +kernel
theorem dL_judge_109 : decode cL_judge 109 = .ok (.iaload, 1) := by decide +kernel
theorem dL_judge_110 : decode cL_judge 110 = .ok (.if_icmp .ge 135, 3) := by decide +kernel
theorem dL_judge_113 : decode cL_judge 113 = .ok (.aload_n 0, 1) := by decide +kernel
theorem dL_judge_114 : decode cL_judge 114 = .ok (.aload_n 1, 1) := by decide +kernel
theorem dL_judge_115 : decode cL_judge 115 = .ok (.aload_n 2, 1) := by decide +kernel
theorem dL_judge_116 : decode cL_judge 116 = .ok (.iload 6, 2) := by decide +kernel
theorem dL_judge_118 : decode cL_judge 118 = .ok (.iload 7, 2) := by decide +kernel
theorem dL_judge_120 : decode cL_judge 120 = .ok (.invokestatic 19, 3) := by decide +kernel
theorem dL_judge_123 : decode cL_judge 123 = .ok (.ifCond .eq 116, 3) := by decide +kernel
theorem dL_judge_126 : decode cL_judge 126 = .ok (.sipush 10000, 3) := by decide +kernel
theorem dL_judge_129 : decode cL_judge 129 = .ok (.aload_n 1, 1) := by decide +kernel
theorem dL_judge_130 : decode cL_judge 130 = .ok (.bipush 30, 2) := by decide +kernel
theorem dL_judge_132 : decode cL_judge 132 = .ok (.iload 6, 2) := by decide +kernel
theorem dL_judge_134 : decode cL_judge 134 = .ok (.iadd, 1) := by decide +kernel
theorem dL_judge_135 : decode cL_judge 135 = .ok (.iaload, 1) := by decide +kernel
theorem dL_judge_136 : decode cL_judge 136 = .ok (.imul, 1) := by decide +kernel
theorem dL_judge_137 : decode cL_judge 137 = .ok (.bipush 100, 2) := by decide +kernel
theorem dL_judge_139 : decode cL_judge 139 = .ok (.iload 6, 2) := by decide +kernel
theorem dL_judge_141 : decode cL_judge 141 = .ok (.imul, 1) := by decide +kernel
theorem dL_judge_142 : decode cL_judge 142 = .ok (.iadd, 1) := by decide +kernel
theorem dL_judge_143 : decode cL_judge 143 = .ok (.iload 7, 2) := by decide +kernel
theorem dL_judge_145 : decode cL_judge 145 = .ok (.iadd, 1) := by decide +kernel
theorem dL_judge_146 : decode cL_judge 146 = .ok (.istore 8, 2) := by decide +kernel
theorem dL_judge_148 : decode cL_judge 148 = .ok (.iconst (-1), 1) := by decide +kernel
theorem dL_judge_149 : decode cL_judge 149 = .ok (.istore 9, 2) := by decide +kernel
theorem dL_judge_151 : decode cL_judge 151 = .ok (.iconst 0, 1) := by decide +kernel
theorem dL_judge_152 : decode cL_judge 152 = .ok (.istore 10, 2) := by decide +kernel
theorem dL_judge_154 : decode cL_judge 154 = .ok (.iload 10, 2) := by decide +kernel
theorem dL_judge_156 : decode cL_judge 156 = .ok (.aload_n 0, 1) := by decide +kernel
theorem dL_judge_157 : decode cL_judge 157 = .ok (.iconst 3, 1) := by decide +kernel
theorem dL_judge_158 : decode cL_judge 158 = .ok (.iaload, 1) := by decide +kernel
theorem dL_judge_159 : decode cL_judge 159 = .ok (.if_icmp .ge 27, 3) := by decide +kernel
theorem dL_judge_162 : decode cL_judge 162 = .ok (.aload_n 3, 1) := by decide +kernel
theorem dL_judge_163 : decode cL_judge 163 = .ok (.iload 10, 2) := by decide +kernel
theorem dL_judge_165 : decode cL_judge 165 = .ok (.iaload, 1) := by decide +kernel
theorem dL_judge_166 : decode cL_judge 166 = .ok (.iload 8, 2) := by decide +kernel
theorem dL_judge_168 : decode cL_judge 168 = .ok (.if_icmp .ne 8, 3) := by decide +kernel
theorem dL_judge_171 : decode cL_judge 171 = .ok (.iload 10, 2) := by decide +kernel
theorem dL_judge_173 : decode cL_judge 173 = .ok (.goto 5, 3) := by decide +kernel
theorem dL_judge_176 : decode cL_judge 176 = .ok (.iload 9, 2) := by decide +kernel
theorem dL_judge_178 : decode cL_judge 178 = .ok (.istore 9, 2) := by decide +kernel
theorem dL_judge_180 : decode cL_judge 180 = .ok (.iinc 10 1, 3) := by decide +kernel
theorem dL_judge_183 : decode cL_judge 183 = .ok (.goto (-29), 3) := by decide +kernel
theorem dL_judge_186 : decode cL_judge 186 = .ok (.iload 9, 2) := by decide +kernel
theorem dL_judge_188 : decode cL_judge 188 = .ok (.ifCond .ge 27, 3) := by decide +kernel
theorem dL_judge_191 : decode cL_judge 191 = .ok (.aload_n 3, 1) := by decide +kernel
theorem dL_judge_192 : decode cL_judge 192 = .ok (.aload_n 0, 1) := by decide +kernel
theorem dL_judge_193 : decode cL_judge 193 = .ok (.iconst 3, 1) := by decide +kernel
theorem dL_judge_194 : decode cL_judge 194 = .ok (.iaload, 1) := by decide +kernel
theorem dL_judge_195 : decode cL_judge 195 = .ok (.iload 8, 2) := by decide +kernel
theorem dL_judge_197 : decode cL_judge 197 = .ok (.iastore, 1) := by decide +kernel
theorem dL_judge_198 : decode cL_judge 198 = .ok (.aload 4, 2) := by decide +kernel
theorem dL_judge_200 : decode cL_judge 200 = .ok (.aload_n 0, 1) := by decide +kernel
theorem dL_judge_201 : decode cL_judge 201 = .ok (.iconst 3, 1) := by decide +kernel
theorem dL_judge_202 : decode cL_judge 202 = .ok (.iaload, 1) := by decide +kernel
theorem dL_judge_203 : decode cL_judge 203 = .ok (.iconst 0, 1) := by decide +kernel
theorem dL_judge_204 : decode cL_judge 204 = .ok (.iastore, 1) := by decide +kernel
theorem dL_judge_205 : decode cL_judge 205 = .ok (.aload_n 0, 1) := by decide +kernel
theorem dL_judge_206 : decode cL_judge 206 = .ok (.iconst 3, 1) := by decide +kernel
theorem dL_judge_207 : decode cL_judge 207 = .ok (.dup2, 1) := by decide +kernel
theorem dL_judge_208 : decode cL_judge 208 = .ok (.iaload, 1) := by decide +kernel
theorem dL_judge_209 : decode cL_judge 209 = .ok (.iconst 1, 1) := by decide +kernel
theorem dL_judge_210 : decode cL_judge 210 = .ok (.iadd, 1) := by decide +kernel
theorem dL_judge_211 : decode cL_judge 211 = .ok (.iastore, 1) := by decide +kernel
theorem dL_judge_212 : decode cL_judge 212 = .ok (.goto 27, 3) := by decide +kernel
theorem dL_judge_215 : decode cL_judge 215 = .ok (.aload 4, 2) := by decide +kernel
theorem dL_judge_217 : decode cL_judge 217 = .ok (.iload 9, 2) := by decide +kernel
theorem dL_judge_219 : decode cL_judge 219 = .ok (.dup2, 1) := by decide +kernel
theorem dL_judge_220 : decode cL_judge 220 = .ok (.iaload, 1) := by decide +kernel
theorem dL_judge_221 : decode cL_judge 221 = .ok (.aload 4, 2) := by decide +kernel
theorem dL_judge_223 : decode cL_judge 223 = .ok (.iload 9, 2) := by decide +kernel
theorem dL_judge_225 : decode cL_judge 225 = .ok (.iaload, 1) := by decide +kernel
theorem dL_judge_226 : decode cL_judge 226 = .ok (.iconst 4, 1) := by decide +kernel
theorem dL_judge_227 : decode cL_judge 227 = .ok (.irem, 1) := by decide +kernel
theorem dL_judge_228 : decode cL_judge 228 = .ok (.iconst 1, 1) := by decide +kernel
theorem dL_judge_229 : decode cL_judge 229 = .ok (.if_icmp .le 7, 3) := by decide +kernel
theorem dL_judge_232 : decode cL_judge 232 = .ok (.iconst 2, 1) := by decide +kernel
theorem dL_judge_233 : decode cL_judge 233 = .ok (.goto 4, 3) := by decide +kernel
theorem dL_judge_236 : decode cL_judge 236 = .ok (.iconst 0, 1) := by decide +kernel
theorem dL_judge_237 : decode cL_judge 237 = .ok (.isub, 1) := by decide +kernel
theorem dL_judge_238 : decode cL_judge 238 = .ok (.iastore, 1) := by decide +kernel
theorem dL_judge_239 : decode cL_judge 239 = .ok (.iinc 7 1, 3) := by decide +kernel
theorem dL_judge_242 : decode cL_judge 242 = .ok (.goto (-137), 3) := by decide +kernel
theorem dL_judge_245 : decode cL_judge 245 = .ok (.iinc 6 1, 3) := by decide +kernel
theorem dL_judge_248 : decode cL_judge 248 = .ok (.goto (-154), 3) := by decide +kernel
theorem dL_judge_251 : decode cL_judge 251 = .ok (.iload 5, 2) := by decide +kernel
theorem dL_judge_253 : decode cL_judge 253 = .ok (.ireturn, 1) := by decide +kernel
theorem dL_fits_0 : decode cL_fits 0 = .ok (.aload_n 1, 1) := by decide +kernel
theorem dL_fits_1 : decode cL_fits 1 = .ok (.iload_n 3, 1) := by decide +kernel
theorem dL_fits_2 : decode cL_fits 2 = .ok (.iaload, 1) := by decide +kernel
theorem dL_fits_3 : decode cL_fits 3 = .ok (.aload_n 2, 1) := by decide +kernel
theorem dL_fits_4 : decode cL_fits 4 = .ok (.bipush 20, 2) := by decide +kernel
theorem dL_fits_6 : decode cL_fits 6 = .ok (.iload 4, 2) := by decide +kernel
theorem dL_fits_8 : decode cL_fits 8 = .ok (.iadd, 1) := by decide +kernel
theorem dL_fits_9 : decode cL_fits 9 = .ok (.iaload, 1) := by decide +kernel
theorem dL_fits_10 : decode cL_fits 10 = .ok (.ishr, 1) := by decide +kernel
theorem dL_fits_11 : decode cL_fits 11 = .ok (.iconst 1, 1) := by decide +kernel
theorem dL_fits_12 : decode cL_fits 12 = .ok (.iand, 1) := by decide +kernel
theorem dL_fits_13 : decode cL_fits 13 = .ok (.iconst 1, 1) := by decide +kernel
theorem dL_fits_14 : decode cL_fits 14 = .ok (.if_icmp .ne 7, 3) := by decide +kernel
theorem dL_fits_17 : decode cL_fits 17 = .ok (.iconst 1, 1) := by decide +kernel
theorem dL_fits_18 : decode cL_fits 18 = .ok (.goto 4, 3) := by decide +kernel
theorem dL_fits_21 : decode cL_fits 21 = .ok (.iconst 0, 1) := by decide +kernel
theorem dL_fits_22 : decode cL_fits 22 = .ok (.istore 6, 2) := by decide +kernel
theorem dL_fits_24 : decode cL_fits 24 = .ok (.iconst 0, 1) := by decide +kernel
theorem dL_fits_25 : decode cL_fits 25 = .ok (.istore 7, 2) := by decide +kernel
theorem dL_fits_27 : decode cL_fits 27 = .ok (.iload 7, 2) := by decide +kernel
theorem dL_fits_29 : decode cL_fits 29 = .ok (.aload_n 0, 1) := by decide +kernel
theorem dL_fits_30 : decode cL_fits 30 = .ok (.iconst 1, 1) := by decide +kernel
theorem dL_fits_31 : decode cL_fits 31 = .ok (.iaload, 1) := by decide +kernel
theorem dL_fits_32 : decode cL_fits 32 = .ok (.if_icmp .ge 74, 3) := by decide +kernel
theorem dL_fits_35 : decode cL_fits 35 = .ok (.iload 6, 2) := by decide +kernel
theorem dL_fits_37 : decode cL_fits 37 = .ok (.ifCond .eq 60, 3) := by decide +kernel
theorem dL_fits_40 : decode cL_fits 40 = .ok (.iload 7, 2) := by decide +kernel
theorem dL_fits_42 : decode cL_fits 42 = .ok (.iload 4, 2) := by decide +kernel
theorem dL_fits_44 : decode cL_fits 44 = .ok (.if_icmp .eq 49, 3) := by decide +kernel
theorem dL_fits_47 : decode cL_fits 47 = .ok (.iload 7, 2) := by decide +kernel
theorem dL_fits_49 : decode cL_fits 49 = .ok (.iload 5, 2) := by decide +kernel
theorem dL_fits_51 : decode cL_fits 51 = .ok (.if_icmp .eq 42, 3) := by decide +kernel
theorem dL_fits_54 : decode cL_fits 54 = .ok (.aload_n 2, 1) := by decide +kernel
theorem dL_fits_55 : decode cL_fits 55 = .ok (.bipush 30, 2) := by decide +kernel
theorem dL_fits_57 : decode cL_fits 57 = .ok (.iload 7, 2) := by decide +kernel
theorem dL_fits_59 : decode cL_fits 59 = .ok (.iadd, 1) := by decide +kernel
theorem dL_fits_60 : decode cL_fits 60 = .ok (.iaload, 1) := by decide +kernel
theorem dL_fits_61 : decode cL_fits 61 = .ok (.iload_n 3, 1) := by decide +kernel
theorem dL_fits_62 : decode cL_fits 62 = .ok (.if_icmp .ne 31, 3) := by decide +kernel
theorem dL_fits_65 : decode cL_fits 65 = .ok (.aload_n 2, 1) := by decide +kernel
theorem dL_fits_66 : decode cL_fits 66 = .ok (.iload 7, 2) := by decide +kernel
theorem dL_fits_68 : decode cL_fits 68 = .ok (.iaload, 1) := by decide +kernel
theorem dL_fits_69 : decode cL_fits 69 = .ok (.aload_n 2, 1) := by decide +kernel
theorem dL_fits_70 : decode cL_fits 70 = .ok (.bipush 10, 2) := by decide +kernel
theorem dL_fits_72 : decode cL_fits 72 = .ok (.iload 4, 2) := by decide +kernel
theorem dL_fits_74 : decode cL_fits 74 = .ok (.iadd, 1) := by decide +kernel
theorem dL_fits_75 : decode cL_fits 75 = .ok (.iaload, 1) := by decide +kernel
theorem dL_fits_76 : decode cL_fits 76 = .ok (.if_icmp .ge 17, 3) := by decide +kernel
theorem dL_fits_79 : decode cL_fits 79 = .ok (.aload_n 2, 1) := by decide +kernel
theorem dL_fits_80 : decode cL_fits 80 = .ok (.iload 4, 2) := by decide +kernel
theorem dL_fits_82 : decode cL_fits 82 = .ok (.iaload, 1) := by decide +kernel
theorem dL_fits_83 : decode cL_fits 83 = .ok (.aload_n 2, 1) := by decide +kernel
theorem dL_fits_84 : decode cL_fits 84 = .ok (.bipush 10, 2) := by decide +kernel
theorem dL_fits_86 : decode cL_fits 86 = .ok (.iload 7, 2) := by decide +kernel
theorem dL_fits_88 : decode cL_fits 88 = .ok (.iadd, 1) := by decide +kernel
theorem dL_fits_89 : decode cL_fits 89 = .ok (.iaload, 1) := by decide +kernel
theorem dL_fits_90 : decode cL_fits 90 = .ok (.if_icmp .lt 7, 3) := by decide +kernel
theorem dL_fits_93 : decode cL_fits 93 = .ok (.iconst 1, 1) := by decide +kernel
theorem dL_fits_94 : decode cL_fits 94 = .ok (.goto 4, 3) := by decide +kernel
theorem dL_fits_97 : decode cL_fits 97 = .ok (.iconst 0, 1) := by decide +kernel
theorem dL_fits_98 : decode cL_fits 98 = .ok (.istore 6, 2) := by decide +kernel
theorem dL_fits_100 : decode cL_fits 100 = .ok (.iinc 7 1, 3) := by decide +kernel
theorem dL_fits_103 : decode cL_fits 103 = .ok (.goto (-76), 3) := by decide +kernel
theorem dL_fits_106 : decode cL_fits 106 = .ok (.iload 6, 2) := by decide +kernel
theorem dL_fits_108 : decode cL_fits 108 = .ok (.ireturn, 1) := by decide +kernel
theorem dL_gets_0 : decode cL_gets 0 = .ok (.iconst 0, 1) := by decide +kernel
theorem dL_gets_1 : decode cL_gets 1 = .ok (.istore 5, 2) := by decide +kernel
theorem dL_gets_3 : decode cL_gets 3 = .ok (.iload 5, 2) := by decide +kernel
theorem dL_gets_5 : decode cL_gets 5 = .ok (.aload_n 0, 1) := by decide +kernel
theorem dL_gets_6 : decode cL_gets 6 = .ok (.iconst 4, 1) := by decide +kernel
theorem dL_gets_7 : decode cL_gets 7 = .ok (.iaload, 1) := by decide +kernel
theorem dL_gets_8 : decode cL_gets 8 = .ok (.if_icmp .ge 57, 3) := by decide +kernel
theorem dL_gets_11 : decode cL_gets 11 = .ok (.aload_n 1, 1) := by decide +kernel
theorem dL_gets_12 : decode cL_gets 12 = .ok (.bipush 30, 2) := by decide +kernel
theorem dL_gets_14 : decode cL_gets 14 = .ok (.iload_n 3, 1) := by decide +kernel
theorem dL_gets_15 : decode cL_gets 15 = .ok (.iadd, 1) := by decide +kernel
theorem dL_gets_16 : decode cL_gets 16 = .ok (.iaload, 1) := by decide +kernel
theorem dL_gets_17 : decode cL_gets 17 = .ok (.iload 4, 2) := by decide +kernel
theorem dL_gets_19 : decode cL_gets 19 = .ok (.if_icmp .eq 46, 3) := by decide +kernel
theorem dL_gets_22 : decode cL_gets 22 = .ok (.aload_n 2, 1) := by decide +kernel
theorem dL_gets_23 : decode cL_gets 23 = .ok (.bipush 24, 2) := by decide +kernel
theorem dL_gets_25 : decode cL_gets 25 = .ok (.iload 5, 2) := by decide +kernel
theorem dL_gets_27 : decode cL_gets 27 = .ok (.iadd, 1) := by decide +kernel
theorem dL_gets_28 : decode cL_gets 28 = .ok (.aload_n 2, 1) := by decide +kernel
theorem dL_gets_29 : decode cL_gets 29 = .ok (.iload 5, 2) := by decide +kernel
theorem dL_gets_31 : decode cL_gets 31 = .ok (.iaload, 1) := by decide +kernel
theorem dL_gets_32 : decode cL_gets 32 = .ok (.iload_n 3, 1) := by decide +kernel
theorem dL_gets_33 : decode cL_gets 33 = .ok (.if_icmp .eq 14, 3) := by decide +kernel
theorem dL_gets_36 : decode cL_gets 36 = .ok (.aload_n 2, 1) := by decide +kernel
theorem dL_gets_37 : decode cL_gets 37 = .ok (.bipush 12, 2) := by decide +kernel
theorem dL_gets_39 : decode cL_gets 39 = .ok (.iload 5, 2) := by decide +kernel
theorem dL_gets_41 : decode cL_gets 41 = .ok (.iadd, 1) := by decide +kernel
theorem dL_gets_42 : decode cL_gets 42 = .ok (.iaload, 1) := by decide +kernel
theorem dL_gets_43 : decode cL_gets 43 = .ok (.iload_n 3, 1) := by decide +kernel
theorem dL_gets_44 : decode cL_gets 44 = .ok (.if_icmp .ne 7, 3) := by decide +kernel
theorem dL_gets_47 : decode cL_gets 47 = .ok (.iconst 0, 1) := by decide +kernel
theorem dL_gets_48 : decode cL_gets 48 = .ok (.goto 10, 3) := by decide +kernel
theorem dL_gets_51 : decode cL_gets 51 = .ok (.aload_n 2, 1) := by decide +kernel
theorem dL_gets_52 : decode cL_gets 52 = .ok (.bipush 24, 2) := by decide +kernel
theorem dL_gets_54 : decode cL_gets 54 = .ok (.iload 5, 2) := by decide +kernel
theorem dL_gets_56 : decode cL_gets 56 = .ok (.iadd, 1) := by decide +kernel
theorem dL_gets_57 : decode cL_gets 57 = .ok (.iaload, 1) := by decide +kernel
theorem dL_gets_58 : decode cL_gets 58 = .ok (.iastore, 1) := by decide +kernel
theorem dL_gets_59 : decode cL_gets 59 = .ok (.iinc 5 1, 3) := by decide +kernel
theorem dL_gets_62 : decode cL_gets 62 = .ok (.goto (-59), 3) := by decide +kernel
theorem dL_gets_65 : decode cL_gets 65 = .ok (.aload_n 1, 1) := by decide +kernel
theorem dL_gets_66 : decode cL_gets 66 = .ok (.bipush 30, 2) := by decide +kernel
theorem dL_gets_68 : decode cL_gets 68 = .ok (.iload_n 3, 1) := by decide +kernel
theorem dL_gets_69 : decode cL_gets 69 = .ok (.iadd, 1) := by decide +kernel
theorem dL_gets_70 : decode cL_gets 70 = .ok (.iload 4, 2) := by decide +kernel
theorem dL_gets_72 : decode cL_gets 72 = .ok (.iastore, 1) := by decide +kernel
theorem dL_gets_73 : decode cL_gets 73 = .ok (.return_, 1) := by decide +kernel
theorem dL_ring_0 : decode cL_ring 0 = .ok (.iconst 0, 1) := by decide +kernel
theorem dL_ring_1 : decode cL_ring 1 = .ok (.istore 5, 2) := by decide +kernel
theorem dL_ring_3 : decode cL_ring 3 = .ok (.aload_n 2, 1) := by decide +kernel
theorem dL_ring_4 : decode cL_ring 4 = .ok (.bipush 24, 2) := by decide +kernel
theorem dL_ring_6 : decode cL_ring 6 = .ok (.iload 4, 2) := by decide +kernel
theorem dL_ring_8 : decode cL_ring 8 = .ok (.iadd, 1) := by decide +kernel
theorem dL_ring_9 : decode cL_ring 9 = .ok (.iaload, 1) := by decide +kernel
theorem dL_ring_10 : decode cL_ring 10 = .ok (.iconst 1, 1) := by decide +kernel
theorem dL_ring_11 : decode cL_ring 11 = .ok (.if_icmp .ne 8, 3) := by decide +kernel
theorem dL_ring_14 : decode cL_ring 14 = .ok (.iload 4, 2) := by decide +kernel
theorem dL_ring_16 : decode cL_ring 16 = .ok (.goto 4, 3) := by decide +kernel
theorem dL_ring_19 : decode cL_ring 19 = .ok (.iconst (-1), 1) := by decide +kernel
theorem dL_ring_20 : decode cL_ring 20 = .ok (.istore 6, 2) := by decide +kernel
theorem dL_ring_22 : decode cL_ring 22 = .ok (.iload 6, 2) := by decide +kernel
theorem dL_ring_24 : decode cL_ring 24 = .ok (.ifCond .lt 154, 3) := by decide +kernel
theorem dL_ring_27 : decode cL_ring 27 = .ok (.iload 5, 2) := by decide +kernel
theorem dL_ring_29 : decode cL_ring 29 = .ok (.bipush 8, 2) := by decide +kernel
theorem dL_ring_31 : decode cL_ring 31 = .ok (.if_icmp .ge 147, 3) := by decide +kernel
theorem dL_ring_34 : decode cL_ring 34 = .ok (.iconst 0, 1) := by decide +kernel
theorem dL_ring_35 : decode cL_ring 35 = .ok (.istore 7, 2) := by decide +kernel
theorem dL_ring_37 : decode cL_ring 37 = .ok (.iconst 0, 1) := by decide +kernel
theorem dL_ring_38 : decode cL_ring 38 = .ok (.istore 8, 2) := by decide +kernel
theorem dL_ring_40 : decode cL_ring 40 = .ok (.iload 8, 2) := by decide +kernel
theorem dL_ring_42 : decode cL_ring 42 = .ok (.iload 5, 2) := by decide +kernel
theorem dL_ring_44 : decode cL_ring 44 = .ok (.if_icmp .ge 44, 3) := by decide +kernel
theorem dL_ring_47 : decode cL_ring 47 = .ok (.iload 7, 2) := by decide +kernel
theorem dL_ring_49 : decode cL_ring 49 = .ok (.ifCond .ne 26, 3) := by decide +kernel
theorem dL_ring_52 : decode cL_ring 52 = .ok (.aload_n 1, 1) := by decide +kernel
theorem dL_ring_53 : decode cL_ring 53 = .ok (.bipush 30, 2) := by decide +kernel
theorem dL_ring_55 : decode cL_ring 55 = .ok (.aload_n 2, 1) := by decide +kernel
theorem dL_ring_56 : decode cL_ring 56 = .ok (.aload_n 3, 1) := by decide +kernel
theorem dL_ring_57 : decode cL_ring 57 = .ok (.iload 8, 2) := by decide +kernel
theorem dL_ring_59 : decode cL_ring 59 = .ok (.iaload, 1) := by decide +kernel
theorem dL_ring_60 : decode cL_ring 60 = .ok (.iaload, 1) := by decide +kernel
theorem dL_ring_61 : decode cL_ring 61 = .ok (.iadd, 1) := by decide +kernel
theorem dL_ring_62 : decode cL_ring 62 = .ok (.iaload, 1) := by decide +kernel
theorem dL_ring_63 : decode cL_ring 63 = .ok (.aload_n 1, 1) := by decide +kernel
theorem dL_ring_64 : decode cL_ring 64 = .ok (.bipush 30, 2) := by decide +kernel
theorem dL_ring_66 : decode cL_ring 66 = .ok (.aload_n 2, 1) := by decide +kernel
theorem dL_ring_67 : decode cL_ring 67 = .ok (.iload 6, 2) := by decide +kernel
theorem dL_ring_69 : decode cL_ring 69 = .ok (.iaload, 1) := by decide +kernel
theorem dL_ring_70 : decode cL_ring 70 = .ok (.iadd, 1) := by decide +kernel
theorem dL_ring_71 : decode cL_ring 71 = .ok (.iaload, 1) := by decide +kernel
theorem dL_ring_72 : decode cL_ring 72 = .ok (.if_icmp .ne 7, 3) := by decide +kernel
theorem dL_ring_75 : decode cL_ring 75 = .ok (.iconst 1, 1) := by decide +kernel
theorem dL_ring_76 : decode cL_ring 76 = .ok (.goto 4, 3) := by decide +kernel
theorem dL_ring_79 : decode cL_ring 79 = .ok (.iconst 0, 1) := by decide +kernel
theorem dL_ring_80 : decode cL_ring 80 = .ok (.istore 7, 2) := by decide +kernel
theorem dL_ring_82 : decode cL_ring 82 = .ok (.iinc 8 1, 3) := by decide +kernel
theorem dL_ring_85 : decode cL_ring 85 = .ok (.goto (-45), 3) := by decide +kernel
theorem dL_ring_88 : decode cL_ring 88 = .ok (.iload 7, 2) := by decide +kernel
theorem dL_ring_90 : decode cL_ring 90 = .ok (.ifCond .eq 5, 3) := by decide +kernel
theorem dL_ring_93 : decode cL_ring 93 = .ok (.iconst 0, 1) := by decide +kernel
theorem dL_ring_94 : decode cL_ring 94 = .ok (.ireturn, 1) := by decide +kernel
theorem dL_ring_95 : decode cL_ring 95 = .ok (.aload_n 3, 1) := by decide +kernel
theorem dL_ring_96 : decode cL_ring 96 = .ok (.iload 5, 2) := by decide +kernel
theorem dL_ring_98 : decode cL_ring 98 = .ok (.iload 6, 2) := by decide +kernel
theorem dL_ring_100 : decode cL_ring 100 = .ok (.iastore, 1) := by decide +kernel
theorem dL_ring_101 : decode cL_ring 101 = .ok (.iinc 5 1, 3) := by decide +kernel
theorem dL_ring_104 : decode cL_ring 104 = .ok (.aload_n 2, 1) := by decide +kernel
theorem dL_ring_105 : decode cL_ring 105 = .ok (.bipush 12, 2) := by decide +kernel
theorem dL_ring_107 : decode cL_ring 107 = .ok (.iload 6, 2) := by decide +kernel
theorem dL_ring_109 : decode cL_ring 109 = .ok (.iadd, 1) := by decide +kernel
theorem dL_ring_110 : decode cL_ring 110 = .ok (.iaload, 1) := by decide +kernel
theorem dL_ring_111 : decode cL_ring 111 = .ok (.istore 8, 2) := by decide +kernel
theorem dL_ring_113 : decode cL_ring 113 = .ok (.iload 8, 2) := by decide +kernel
theorem dL_ring_115 : decode cL_ring 115 = .ok (.aload_n 2, 1) := by decide +kernel
theorem dL_ring_116 : decode cL_ring 116 = .ok (.iload 4, 2) := by decide +kernel
theorem dL_ring_118 : decode cL_ring 118 = .ok (.iaload, 1) := by decide +kernel
theorem dL_ring_119 : decode cL_ring 119 = .ok (.if_icmp .ne 6, 3) := by decide +kernel
theorem dL_ring_122 : decode cL_ring 122 = .ok (.iload 5, 2) := by decide +kernel
theorem dL_ring_124 : decode cL_ring 124 = .ok (.ireturn, 1) := by decide +kernel
theorem dL_ring_125 : decode cL_ring 125 = .ok (.iconst (-1), 1) := by decide +kernel
theorem dL_ring_126 : decode cL_ring 126 = .ok (.istore 6, 2) := by decide +kernel
theorem dL_ring_128 : decode cL_ring 128 = .ok (.aload_n 0, 1) := by decide +kernel
theorem dL_ring_129 : decode cL_ring 129 = .ok (.iconst 4, 1) := by decide +kernel
theorem dL_ring_130 : decode cL_ring 130 = .ok (.iaload, 1) := by decide +kernel
theorem dL_ring_131 : decode cL_ring 131 = .ok (.iconst 1, 1) := by decide +kernel
theorem dL_ring_132 : decode cL_ring 132 = .ok (.isub, 1) := by decide +kernel
theorem dL_ring_133 : decode cL_ring 133 = .ok (.istore 9, 2) := by decide +kernel
theorem dL_ring_135 : decode cL_ring 135 = .ok (.iload 9, 2) := by decide +kernel
theorem dL_ring_137 : decode cL_ring 137 = .ok (.ifCond .lt 38, 3) := by decide +kernel
theorem dL_ring_140 : decode cL_ring 140 = .ok (.aload_n 2, 1) := by decide +kernel
theorem dL_ring_141 : decode cL_ring 141 = .ok (.bipush 24, 2) := by decide +kernel
theorem dL_ring_143 : decode cL_ring 143 = .ok (.iload 9, 2) := by decide +kernel
theorem dL_ring_145 : decode cL_ring 145 = .ok (.iadd, 1) := by decide +kernel
theorem dL_ring_146 : decode cL_ring 146 = .ok (.iaload, 1) := by decide +kernel
theorem dL_ring_147 : decode cL_ring 147 = .ok (.iconst 1, 1) := by decide +kernel
theorem dL_ring_148 : decode cL_ring 148 = .ok (.if_icmp .ne 17, 3) := by decide +kernel
theorem dL_ring_151 : decode cL_ring 151 = .ok (.aload_n 2, 1) := by decide +kernel
theorem dL_ring_152 : decode cL_ring 152 = .ok (.iload 9, 2) := by decide +kernel
theorem dL_ring_154 : decode cL_ring 154 = .ok (.iaload, 1) := by decide +kernel
theorem dL_ring_155 : decode cL_ring 155 = .ok (.iload 8, 2) := by decide +kernel
theorem dL_ring_157 : decode cL_ring 157 = .ok (.if_icmp .ne 8, 3) := by decide +kernel
theorem dL_ring_160 : decode cL_ring 160 = .ok (.iload 9, 2) := by decide +kernel
theorem dL_ring_162 : decode cL_ring 162 = .ok (.goto 5, 3) := by decide +kernel
theorem dL_ring_165 : decode cL_ring 165 = .ok (.iload 6, 2) := by decide +kernel
theorem dL_ring_167 : decode cL_ring 167 = .ok (.istore 6, 2) := by decide +kernel
theorem dL_ring_169 : decode cL_ring 169 = .ok (.iinc 9 (-1), 3) := by decide +kernel
theorem dL_ring_172 : decode cL_ring 172 = .ok (.goto (-37), 3) := by decide +kernel
theorem dL_ring_175 : decode cL_ring 175 = .ok (.goto (-153), 3) := by decide +kernel
theorem dL_ring_178 : decode cL_ring 178 = .ok (.iconst 0, 1) := by decide +kernel
theorem dL_ring_179 : decode cL_ring 179 = .ok (.ireturn, 1) := by decide +kernel
theorem dL_there_0 : decode cL_there 0 = .ok (.iconst 0, 1) := by decide +kernel
theorem dL_there_1 : decode cL_there 1 = .ok (.istore_n 2, 1) := by decide +kernel
theorem dL_there_2 : decode cL_there 2 = .ok (.iconst 0, 1) := by decide +kernel
theorem dL_there_3 : decode cL_there 3 = .ok (.istore_n 3, 1) := by decide +kernel
theorem dL_there_4 : decode cL_there 4 = .ok (.iload_n 3, 1) := by decide +kernel
theorem dL_there_5 : decode cL_there 5 = .ok (.aload_n 0, 1) := by decide +kernel
theorem dL_there_6 : decode cL_there 6 = .ok (.iconst 4, 1) := by decide +kernel
theorem dL_there_7 : decode cL_there 7 = .ok (.iaload, 1) := by decide +kernel
theorem dL_there_8 : decode cL_there 8 = .ok (.if_icmp .ge 18, 3) := by decide +kernel
theorem dL_there_11 : decode cL_there 11 = .ok (.iload_n 2, 1) := by decide +kernel
theorem dL_there_12 : decode cL_there 12 = .ok (.aload_n 1, 1) := by decide +kernel
theorem dL_there_13 : decode cL_there 13 = .ok (.bipush 24, 2) := by decide +kernel
theorem dL_there_15 : decode cL_there 15 = .ok (.iload_n 3, 1) := by decide +kernel
theorem dL_there_16 : decode cL_there 16 = .ok (.iadd, 1) := by decide +kernel
theorem dL_there_17 : decode cL_there 17 = .ok (.iaload, 1) := by decide +kernel
theorem dL_there_18 : decode cL_there 18 = .ok (.iadd, 1) := by decide +kernel
theorem dL_there_19 : decode cL_there 19 = .ok (.istore_n 2, 1) := by decide +kernel
theorem dL_there_20 : decode cL_there 20 = .ok (.iinc 3 1, 3) := by decide +kernel
theorem dL_there_23 : decode cL_there 23 = .ok (.goto (-19), 3) := by decide +kernel
theorem dL_there_26 : decode cL_there 26 = .ok (.iload_n 2, 1) := by decide +kernel
theorem dL_there_27 : decode cL_there 27 = .ok (.ireturn, 1) := by decide +kernel
theorem dL_worth_0 : decode cL_worth 0 = .ok (.iload_n 3, 1) := by decide +kernel
theorem dL_worth_1 : decode cL_worth 1 = .ok (.bipush 100, 2) := by decide +kernel
theorem dL_worth_3 : decode cL_worth 3 = .ok (.idiv, 1) := by decide +kernel
theorem dL_worth_4 : decode cL_worth 4 = .ok (.bipush 100, 2) := by decide +kernel
theorem dL_worth_6 : decode cL_worth 6 = .ok (.irem, 1) := by decide +kernel
theorem dL_worth_7 : decode cL_worth 7 = .ok (.istore 4, 2) := by decide +kernel
theorem dL_worth_9 : decode cL_worth 9 = .ok (.aload_n 1, 1) := by decide +kernel
theorem dL_worth_10 : decode cL_worth 10 = .ok (.bipush 50, 2) := by decide +kernel
theorem dL_worth_12 : decode cL_worth 12 = .ok (.iload 4, 2) := by decide +kernel
theorem dL_worth_14 : decode cL_worth 14 = .ok (.iadd, 1) := by decide +kernel
theorem dL_worth_15 : decode cL_worth 15 = .ok (.iaload, 1) := by decide +kernel
theorem dL_worth_16 : decode cL_worth 16 = .ok (.aload_n 1, 1) := by decide +kernel
theorem dL_worth_17 : decode cL_worth 17 = .ok (.bipush 40, 2) := by decide +kernel
theorem dL_worth_19 : decode cL_worth 19 = .ok (.iload 4, 2) := by decide +kernel
theorem dL_worth_21 : decode cL_worth 21 = .ok (.iadd, 1) := by decide +kernel
theorem dL_worth_22 : decode cL_worth 22 = .ok (.iaload, 1) := by decide +kernel
theorem dL_worth_23 : decode cL_worth 23 = .ok (.isub, 1) := by decide +kernel
theorem dL_worth_24 : decode cL_worth 24 = .ok (.aload_n 0, 1) := by decide +kernel
theorem dL_worth_25 : decode cL_worth 25 = .ok (.iconst 4, 1) := by decide +kernel
theorem dL_worth_26 : decode cL_worth 26 = .ok (.iload_n 3, 1) := by decide +kernel
theorem dL_worth_27 : decode cL_worth 27 = .ok (.sipush 10000, 3) := by decide +kernel
theorem dL_worth_30 : decode cL_worth 30 = .ok (.idiv, 1) := by decide +kernel
theorem dL_worth_31 : decode cL_worth 31 = .ok (.iadd, 1) := by decide +kernel
theorem dL_worth_32 : decode cL_worth 32 = .ok (.iaload, 1) := by decide +kernel
theorem dL_worth_33 : decode cL_worth 33 = .ok (.imul, 1) := by decide +kernel
theorem dL_worth_34 : decode cL_worth 34 = .ok (.aload_n 2, 1) := by decide +kernel
theorem dL_worth_35 : decode cL_worth 35 = .ok (.bipush 12, 2) := by decide +kernel
theorem dL_worth_37 : decode cL_worth 37 = .ok (.iload_n 3, 1) := by decide +kernel
theorem dL_worth_38 : decode cL_worth 38 = .ok (.bipush 100, 2) := by decide +kernel
theorem dL_worth_40 : decode cL_worth 40 = .ok (.irem, 1) := by decide +kernel
theorem dL_worth_41 : decode cL_worth 41 = .ok (.iadd, 1) := by decide +kernel
theorem dL_worth_42 : decode cL_worth 42 = .ok (.iaload, 1) := by decide +kernel
theorem dL_worth_43 : decode cL_worth 43 = .ok (.imul, 1) := by decide +kernel
theorem dL_worth_44 : decode cL_worth 44 = .ok (.bipush 100, 2) := by decide +kernel
theorem dL_worth_46 : decode cL_worth 46 = .ok (.idiv, 1) := by decide +kernel
theorem dL_worth_47 : decode cL_worth 47 = .ok (.ireturn, 1) := by decide +kernel
theorem dL_passes_0 : decode cL_passes 0 = .ok (.aload_n 0, 1) := by decide +kernel
theorem dL_passes_1 : decode cL_passes 1 = .ok (.iload_n 1, 1) := by decide +kernel
theorem dL_passes_2 : decode cL_passes 2 = .ok (.invokevirtual 23, 3) := by decide +kernel
theorem dL_passes_5 : decode cL_passes 5 = .ok (.ireturn, 1) := by decide +kernel
theorem dL_passes_6 : decode cL_passes 6 = .ok (.astore_n 2, 1) := by decide +kernel
theorem dL_passes_7 : decode cL_passes 7 = .ok (.sipush (-1002), 3) := by decide +kernel
theorem dL_passes_10 : decode cL_passes 10 = .ok (.ireturn, 1) := by decide +kernel
theorem dL_passes_11 : decode cL_passes 11 = .ok (.astore_n 2, 1) := by decide +kernel
theorem dL_passes_12 : decode cL_passes 12 = .ok (.sipush (-1003), 3) := by decide +kernel
theorem dL_passes_15 : decode cL_passes 15 = .ok (.ireturn, 1) := by decide +kernel
theorem dL_three_0 : decode cL_three 0 = .ok (.iload_n 1, 1) := by decide +kernel
theorem dL_three_1 : decode cL_three 1 = .ok (.ifCond .ne 14, 3) := by decide +kernel
theorem dL_three_4 : decode cL_three 4 = .ok (.aload_n 0, 1) := by decide +kernel
theorem dL_three_5 : decode cL_three 5 = .ok (.iload_n 2, 1) := by decide +kernel
theorem dL_three_6 : decode cL_three 6 = .ok (.iload_n 3, 1) := by decide +kernel
theorem dL_three_7 : decode cL_three 7 = .ok (.iload 4, 2) := by decide +kernel
theorem dL_three_9 : decode cL_three 9 = .ok (.invokevirtual 33, 3) := by decide +kernel
theorem dL_three_12 : decode cL_three 12 = .ok (.goto 27, 3) := by decide +kernel
theorem dL_three_15 : decode cL_three 15 = .ok (.iload_n 1, 1) := by decide +kernel
theorem dL_three_16 : decode cL_three 16 = .ok (.iconst 1, 1) := by decide +kernel
theorem dL_three_17 : decode cL_three 17 = .ok (.if_icmp .ne 14, 3) := by decide +kernel
theorem dL_three_20 : decode cL_three 20 = .ok (.aload_n 0, 1) := by decide +kernel
theorem dL_three_21 : decode cL_three 21 = .ok (.iload_n 2, 1) := by decide +kernel
theorem dL_three_22 : decode cL_three 22 = .ok (.iload_n 3, 1) := by decide +kernel
theorem dL_three_23 : decode cL_three 23 = .ok (.iload 4, 2) := by decide +kernel
theorem dL_three_25 : decode cL_three 25 = .ok (.invokevirtual 37, 3) := by decide +kernel
theorem dL_three_28 : decode cL_three 28 = .ok (.goto 11, 3) := by decide +kernel
theorem dL_three_31 : decode cL_three 31 = .ok (.aload_n 0, 1) := by decide +kernel
theorem dL_three_32 : decode cL_three 32 = .ok (.iload_n 2, 1) := by decide +kernel
theorem dL_three_33 : decode cL_three 33 = .ok (.iload_n 3, 1) := by decide +kernel
theorem dL_three_34 : decode cL_three 34 = .ok (.iload 4, 2) := by decide +kernel
theorem dL_three_36 : decode cL_three 36 = .ok (.invokevirtual 40, 3) := by decide +kernel
theorem dL_three_39 : decode cL_three 39 = .ok (.ireturn, 1) := by decide +kernel
theorem dL_three_40 : decode cL_three 40 = .ok (.astore 5, 2) := by decide +kernel
theorem dL_three_42 : decode cL_three 42 = .ok (.sipush (-1001), 3) := by decide +kernel
theorem dL_three_45 : decode cL_three 45 = .ok (.ireturn, 1) := by decide +kernel
theorem dL_three_46 : decode cL_three 46 = .ok (.astore 5, 2) := by decide +kernel
theorem dL_three_48 : decode cL_three 48 = .ok (.sipush (-1002), 3) := by decide +kernel
theorem dL_three_51 : decode cL_three 51 = .ok (.ireturn, 1) := by decide +kernel
theorem dL_three_52 : decode cL_three 52 = .ok (.astore 5, 2) := by decide +kernel
theorem dL_three_54 : decode cL_three 54 = .ok (.sipush (-1003), 3) := by decide +kernel
theorem dL_three_57 : decode cL_three 57 = .ok (.ireturn, 1) := by decide +kernel
theorem dL_two_0 : decode cL_two 0 = .ok (.iload_n 1, 1) := by decide +kernel
theorem dL_two_1 : decode cL_two 1 = .ok (.ifCond .ne 12, 3) := by decide +kernel
theorem dL_two_4 : decode cL_two 4 = .ok (.aload_n 0, 1) := by decide +kernel
theorem dL_two_5 : decode cL_two 5 = .ok (.iload_n 2, 1) := by decide +kernel
theorem dL_two_6 : decode cL_two 6 = .ok (.iload_n 3, 1) := by decide +kernel
theorem dL_two_7 : decode cL_two 7 = .ok (.invokevirtual 45, 3) := by decide +kernel
theorem dL_two_10 : decode cL_two 10 = .ok (.goto 59, 3) := by decide +kernel
theorem dL_two_13 : decode cL_two 13 = .ok (.iload_n 1, 1) := by decide +kernel
theorem dL_two_14 : decode cL_two 14 = .ok (.iconst 1, 1) := by decide +kernel
theorem dL_two_15 : decode cL_two 15 = .ok (.if_icmp .ne 12, 3) := by decide +kernel
theorem dL_two_18 : decode cL_two 18 = .ok (.aload_n 0, 1) := by decide +kernel
theorem dL_two_19 : decode cL_two 19 = .ok (.iload_n 2, 1) := by decide +kernel
theorem dL_two_20 : decode cL_two 20 = .ok (.iload_n 3, 1) := by decide +kernel
theorem dL_two_21 : decode cL_two 21 = .ok (.invokevirtual 49, 3) := by decide +kernel
theorem dL_two_24 : decode cL_two 24 = .ok (.goto 45, 3) := by decide +kernel
theorem dL_two_27 : decode cL_two 27 = .ok (.iload_n 1, 1) := by decide +kernel
theorem dL_two_28 : decode cL_two 28 = .ok (.iconst 2, 1) := by decide +kernel
theorem dL_two_29 : decode cL_two 29 = .ok (.if_icmp .ne 12, 3) := by decide +kernel
theorem dL_two_32 : decode cL_two 32 = .ok (.aload_n 0, 1) := by decide +kernel
theorem dL_two_33 : decode cL_two 33 = .ok (.iload_n 2, 1) := by decide +kernel
theorem dL_two_34 : decode cL_two 34 = .ok (.iload_n 3, 1) := by decide +kernel
theorem dL_two_35 : decode cL_two 35 = .ok (.invokevirtual 52, 3) := by decide +kernel
theorem dL_two_38 : decode cL_two 38 = .ok (.goto 31, 3) := by decide +kernel
theorem dL_two_41 : decode cL_two 41 = .ok (.iload_n 1, 1) := by decide +kernel
theorem dL_two_42 : decode cL_two 42 = .ok (.iconst 3, 1) := by decide +kernel
theorem dL_two_43 : decode cL_two 43 = .ok (.if_icmp .ne 20, 3) := by decide +kernel
theorem dL_two_46 : decode cL_two 46 = .ok (.aload_n 0, 1) := by decide +kernel
theorem dL_two_47 : decode cL_two 47 = .ok (.iload_n 2, 1) := by decide +kernel
theorem dL_two_48 : decode cL_two 48 = .ok (.iload_n 3, 1) := by decide +kernel
theorem dL_two_49 : decode cL_two 49 = .ok (.invokevirtual 55, 3) := by decide +kernel
theorem dL_two_52 : decode cL_two 52 = .ok (.ifCond .eq 7, 3) := by decide +kernel
theorem dL_two_55 : decode cL_two 55 = .ok (.iconst 1, 1) := by decide +kernel
theorem dL_two_56 : decode cL_two 56 = .ok (.goto 13, 3) := by decide +kernel
theorem dL_two_59 : decode cL_two 59 = .ok (.iconst 0, 1) := by decide +kernel
theorem dL_two_60 : decode cL_two 60 = .ok (.goto 9, 3) := by decide +kernel
theorem dL_two_63 : decode cL_two 63 = .ok (.aload_n 0, 1) := by decide +kernel
theorem dL_two_64 : decode cL_two 64 = .ok (.iload_n 2, 1) := by decide +kernel
theorem dL_two_65 : decode cL_two 65 = .ok (.iload_n 3, 1) := by decide +kernel
theorem dL_two_66 : decode cL_two 66 = .ok (.invokevirtual 59, 3) := by decide +kernel
theorem dL_two_69 : decode cL_two 69 = .ok (.ireturn, 1) := by decide +kernel
theorem dL_two_70 : decode cL_two 70 = .ok (.astore 4, 2) := by decide +kernel
theorem dL_two_72 : decode cL_two 72 = .ok (.sipush (-1001), 3) := by decide +kernel
theorem dL_two_75 : decode cL_two 75 = .ok (.ireturn, 1) := by decide +kernel
theorem dL_two_76 : decode cL_two 76 = .ok (.astore 4, 2) := by decide +kernel
theorem dL_two_78 : decode cL_two 78 = .ok (.sipush (-1002), 3) := by decide +kernel
theorem dL_two_81 : decode cL_two 81 = .ok (.ireturn, 1) := by decide +kernel
theorem dL_two_82 : decode cL_two 82 = .ok (.astore 4, 2) := by decide +kernel
theorem dL_two_84 : decode cL_two 84 = .ok (.sipush (-1003), 3) := by decide +kernel
theorem dL_two_87 : decode cL_two 87 = .ok (.ireturn, 1) := by decide +kernel
theorem dL_one_0 : decode cL_one 0 = .ok (.iload_n 1, 1) := by decide +kernel
theorem dL_one_1 : decode cL_one 1 = .ok (.ifCond .ne 11, 3) := by decide +kernel
theorem dL_one_4 : decode cL_one 4 = .ok (.aload_n 0, 1) := by decide +kernel
theorem dL_one_5 : decode cL_one 5 = .ok (.iload_n 2, 1) := by decide +kernel
theorem dL_one_6 : decode cL_one 6 = .ok (.invokevirtual 62, 3) := by decide +kernel
theorem dL_one_9 : decode cL_one 9 = .ok (.goto 143, 3) := by decide +kernel
theorem dL_one_12 : decode cL_one 12 = .ok (.iload_n 1, 1) := by decide +kernel
theorem dL_one_13 : decode cL_one 13 = .ok (.iconst 1, 1) := by decide +kernel
theorem dL_one_14 : decode cL_one 14 = .ok (.if_icmp .ne 11, 3) := by decide +kernel
theorem dL_one_17 : decode cL_one 17 = .ok (.aload_n 0, 1) := by decide +kernel
theorem dL_one_18 : decode cL_one 18 = .ok (.iload_n 2, 1) := by decide +kernel
theorem dL_one_19 : decode cL_one 19 = .ok (.invokevirtual 65, 3) := by decide +kernel
theorem dL_one_22 : decode cL_one 22 = .ok (.goto 130, 3) := by decide +kernel
theorem dL_one_25 : decode cL_one 25 = .ok (.iload_n 1, 1) := by decide +kernel
theorem dL_one_26 : decode cL_one 26 = .ok (.iconst 2, 1) := by decide +kernel
theorem dL_one_27 : decode cL_one 27 = .ok (.if_icmp .ne 11, 3) := by decide +kernel
theorem dL_one_30 : decode cL_one 30 = .ok (.aload_n 0, 1) := by decide +kernel
theorem dL_one_31 : decode cL_one 31 = .ok (.iload_n 2, 1) := by decide +kernel
theorem dL_one_32 : decode cL_one 32 = .ok (.invokevirtual 68, 3) := by decide +kernel
theorem dL_one_35 : decode cL_one 35 = .ok (.goto 117, 3) := by decide +kernel
theorem dL_one_38 : decode cL_one 38 = .ok (.iload_n 1, 1) := by decide +kernel
theorem dL_one_39 : decode cL_one 39 = .ok (.iconst 3, 1) := by decide +kernel
theorem dL_one_40 : decode cL_one 40 = .ok (.if_icmp .ne 11, 3) := by decide +kernel
theorem dL_one_43 : decode cL_one 43 = .ok (.aload_n 0, 1) := by decide +kernel
theorem dL_one_44 : decode cL_one 44 = .ok (.iload_n 2, 1) := by decide +kernel
theorem dL_one_45 : decode cL_one 45 = .ok (.invokevirtual 71, 3) := by decide +kernel
theorem dL_one_48 : decode cL_one 48 = .ok (.goto 104, 3) := by decide +kernel
theorem dL_one_51 : decode cL_one 51 = .ok (.iload_n 1, 1) := by decide +kernel
theorem dL_one_52 : decode cL_one 52 = .ok (.iconst 4, 1) := by decide +kernel
theorem dL_one_53 : decode cL_one 53 = .ok (.if_icmp .ne 11, 3) := by decide +kernel
theorem dL_one_56 : decode cL_one 56 = .ok (.aload_n 0, 1) := by decide +kernel
theorem dL_one_57 : decode cL_one 57 = .ok (.iload_n 2, 1) := by decide +kernel
theorem dL_one_58 : decode cL_one 58 = .ok (.invokevirtual 74, 3) := by decide +kernel
theorem dL_one_61 : decode cL_one 61 = .ok (.goto 91, 3) := by decide +kernel
theorem dL_one_64 : decode cL_one 64 = .ok (.iload_n 1, 1) := by decide +kernel
theorem dL_one_65 : decode cL_one 65 = .ok (.iconst 5, 1) := by decide +kernel
theorem dL_one_66 : decode cL_one 66 = .ok (.if_icmp .ne 11, 3) := by decide +kernel
theorem dL_one_69 : decode cL_one 69 = .ok (.aload_n 0, 1) := by decide +kernel
theorem dL_one_70 : decode cL_one 70 = .ok (.iload_n 2, 1) := by decide +kernel
theorem dL_one_71 : decode cL_one 71 = .ok (.invokevirtual 77, 3) := by decide +kernel
theorem dL_one_74 : decode cL_one 74 = .ok (.goto 78, 3) := by decide +kernel
theorem dL_one_77 : decode cL_one 77 = .ok (.iload_n 1, 1) := by decide +kernel
theorem dL_one_78 : decode cL_one 78 = .ok (.bipush 6, 2) := by decide +kernel
theorem dL_one_80 : decode cL_one 80 = .ok (.if_icmp .ne 11, 3) := by decide +kernel
theorem dL_one_83 : decode cL_one 83 = .ok (.aload_n 0, 1) := by decide +kernel
theorem dL_one_84 : decode cL_one 84 = .ok (.iload_n 2, 1) := by decide +kernel
theorem dL_one_85 : decode cL_one 85 = .ok (.invokevirtual 80, 3) := by decide +kernel
theorem dL_one_88 : decode cL_one 88 = .ok (.goto 64, 3) := by decide +kernel
theorem dL_one_91 : decode cL_one 91 = .ok (.iload_n 1, 1) := by decide +kernel
theorem dL_one_92 : decode cL_one 92 = .ok (.bipush 7, 2) := by decide +kernel
theorem dL_one_94 : decode cL_one 94 = .ok (.if_icmp .ne 11, 3) := by decide +kernel
theorem dL_one_97 : decode cL_one 97 = .ok (.aload_n 0, 1) := by decide +kernel
theorem dL_one_98 : decode cL_one 98 = .ok (.iload_n 2, 1) := by decide +kernel
theorem dL_one_99 : decode cL_one 99 = .ok (.invokevirtual 83, 3) := by decide +kernel
theorem dL_one_102 : decode cL_one 102 = .ok (.goto 50, 3) := by decide +kernel
theorem dL_one_105 : decode cL_one 105 = .ok (.iload_n 1, 1) := by decide +kernel
theorem dL_one_106 : decode cL_one 106 = .ok (.bipush 8, 2) := by decide +kernel
theorem dL_one_108 : decode cL_one 108 = .ok (.if_icmp .ne 11, 3) := by decide +kernel
theorem dL_one_111 : decode cL_one 111 = .ok (.aload_n 0, 1) := by decide +kernel
theorem dL_one_112 : decode cL_one 112 = .ok (.iload_n 2, 1) := by decide +kernel
theorem dL_one_113 : decode cL_one 113 = .ok (.invokevirtual 86, 3) := by decide +kernel
theorem dL_one_116 : decode cL_one 116 = .ok (.goto 36, 3) := by decide +kernel
theorem dL_one_119 : decode cL_one 119 = .ok (.iload_n 1, 1) := by decide +kernel
theorem dL_one_120 : decode cL_one 120 = .ok (.bipush 9, 2) := by decide +kernel
theorem dL_one_122 : decode cL_one 122 = .ok (.if_icmp .ne 11, 3) := by decide +kernel
theorem dL_one_125 : decode cL_one 125 = .ok (.aload_n 0, 1) := by decide +kernel
theorem dL_one_126 : decode cL_one 126 = .ok (.iload_n 2, 1) := by decide +kernel
theorem dL_one_127 : decode cL_one 127 = .ok (.invokevirtual 89, 3) := by decide +kernel
theorem dL_one_130 : decode cL_one 130 = .ok (.goto 22, 3) := by decide +kernel
theorem dL_one_133 : decode cL_one 133 = .ok (.iload_n 1, 1) := by decide +kernel
theorem dL_one_134 : decode cL_one 134 = .ok (.bipush 10, 2) := by decide +kernel
theorem dL_one_136 : decode cL_one 136 = .ok (.if_icmp .ne 11, 3) := by decide +kernel
theorem dL_one_139 : decode cL_one 139 = .ok (.aload_n 0, 1) := by decide +kernel
theorem dL_one_140 : decode cL_one 140 = .ok (.iload_n 2, 1) := by decide +kernel
theorem dL_one_141 : decode cL_one 141 = .ok (.invokevirtual 92, 3) := by decide +kernel
theorem dL_one_144 : decode cL_one 144 = .ok (.goto 8, 3) := by decide +kernel
theorem dL_one_147 : decode cL_one 147 = .ok (.aload_n 0, 1) := by decide +kernel
theorem dL_one_148 : decode cL_one 148 = .ok (.iload_n 2, 1) := by decide +kernel
theorem dL_one_149 : decode cL_one 149 = .ok (.invokevirtual 95, 3) := by decide +kernel
theorem dL_one_152 : decode cL_one 152 = .ok (.ireturn, 1) := by decide +kernel
theorem dL_one_153 : decode cL_one 153 = .ok (.astore_n 3, 1) := by decide +kernel
theorem dL_one_154 : decode cL_one 154 = .ok (.sipush (-1001), 3) := by decide +kernel
theorem dL_one_157 : decode cL_one 157 = .ok (.ireturn, 1) := by decide +kernel
theorem dL_one_158 : decode cL_one 158 = .ok (.astore_n 3, 1) := by decide +kernel
theorem dL_one_159 : decode cL_one 159 = .ok (.sipush (-1003), 3) := by decide +kernel
theorem dL_one_162 : decode cL_one 162 = .ok (.ireturn, 1) := by decide +kernel
theorem dL_puts_0 : decode cL_puts 0 = .ok (.aload_n 0, 1) := by decide +kernel
theorem dL_puts_1 : decode cL_puts 1 = .ok (.iload_n 1, 1) := by decide +kernel
theorem dL_puts_2 : decode cL_puts 2 = .ok (.i2c, 1) := by decide +kernel
theorem dL_puts_3 : decode cL_puts 3 = .ok (.invokevirtual 98, 3) := by decide +kernel
theorem dL_puts_6 : decode cL_puts 6 = .ok (.ireturn, 1) := by decide +kernel
theorem dL_puts_7 : decode cL_puts 7 = .ok (.astore_n 2, 1) := by decide +kernel
theorem dL_puts_8 : decode cL_puts 8 = .ok (.sipush (-1002), 3) := by decide +kernel
theorem dL_puts_11 : decode cL_puts 11 = .ok (.ireturn, 1) := by decide +kernel
theorem dL_puts_12 : decode cL_puts 12 = .ok (.astore_n 2, 1) := by decide +kernel
theorem dL_puts_13 : decode cL_puts 13 = .ok (.sipush (-1003), 3) := by decide +kernel
theorem dL_puts_16 : decode cL_puts 16 = .ok (.ireturn, 1) := by decide +kernel
theorem dL_reads_0 : decode cL_reads 0 = .ok (.aload_n 0, 1) := by decide +kernel
theorem dL_reads_1 : decode cL_reads 1 = .ok (.invokevirtual 102, 3) := by decide +kernel
theorem dL_reads_4 : decode cL_reads 4 = .ok (.ireturn, 1) := by decide +kernel
theorem dL_reads_5 : decode cL_reads 5 = .ok (.astore_n 1, 1) := by decide +kernel
theorem dL_reads_6 : decode cL_reads 6 = .ok (.sipush (-1002), 3) := by decide +kernel
theorem dL_reads_9 : decode cL_reads 9 = .ok (.ireturn, 1) := by decide +kernel
theorem dL_reads_10 : decode cL_reads 10 = .ok (.astore_n 1, 1) := by decide +kernel
theorem dL_reads_11 : decode cL_reads 11 = .ok (.sipush (-1003), 3) := by decide +kernel
theorem dL_reads_14 : decode cL_reads 14 = .ok (.ireturn, 1) := by decide +kernel
theorem dL_coded_0 : decode cL_coded 0 = .ok (.iload_n 0, 1) := by decide +kernel
theorem dL_coded_1 : decode cL_coded 1 = .ok (.bipush 64, 2) := by decide +kernel
theorem dL_coded_3 : decode cL_coded 3 = .ok (.isub, 1) := by decide +kernel
theorem dL_coded_4 : decode cL_coded 4 = .ok (.bipush 32, 2) := by decide +kernel
theorem dL_coded_6 : decode cL_coded 6 = .ok (.iload_n 1, 1) := by decide +kernel
theorem dL_coded_7 : decode cL_coded 7 = .ok (.bipush 64, 2) := by decide +kernel
theorem dL_coded_9 : decode cL_coded 9 = .ok (.isub, 1) := by decide +kernel
theorem dL_coded_10 : decode cL_coded 10 = .ok (.imul, 1) := by decide +kernel
theorem dL_coded_11 : decode cL_coded 11 = .ok (.iadd, 1) := by decide +kernel
theorem dL_coded_12 : decode cL_coded 12 = .ok (.sipush 1024, 3) := by decide +kernel
theorem dL_coded_15 : decode cL_coded 15 = .ok (.iload_n 2, 1) := by decide +kernel
theorem dL_coded_16 : decode cL_coded 16 = .ok (.bipush 64, 2) := by decide +kernel
theorem dL_coded_18 : decode cL_coded 18 = .ok (.isub, 1) := by decide +kernel
theorem dL_coded_19 : decode cL_coded 19 = .ok (.imul, 1) := by decide +kernel
theorem dL_coded_20 : decode cL_coded 20 = .ok (.iadd, 1) := by decide +kernel
theorem dL_coded_21 : decode cL_coded 21 = .ok (.ldc 106, 2) := by decide +kernel
theorem dL_coded_23 : decode cL_coded 23 = .ok (.iload_n 3, 1) := by decide +kernel
theorem dL_coded_24 : decode cL_coded 24 = .ok (.bipush 64, 2) := by decide +kernel
theorem dL_coded_26 : decode cL_coded 26 = .ok (.isub, 1) := by decide +kernel
theorem dL_coded_27 : decode cL_coded 27 = .ok (.imul, 1) := by decide +kernel
theorem dL_coded_28 : decode cL_coded 28 = .ok (.iadd, 1) := by decide +kernel
theorem dL_coded_29 : decode cL_coded 29 = .ok (.ldc 107, 2) := by decide +kernel
theorem dL_coded_31 : decode cL_coded 31 = .ok (.iload 4, 2) := by decide +kernel
theorem dL_coded_33 : decode cL_coded 33 = .ok (.bipush 64, 2) := by decide +kernel
theorem dL_coded_35 : decode cL_coded 35 = .ok (.isub, 1) := by decide +kernel
theorem dL_coded_36 : decode cL_coded 36 = .ok (.imul, 1) := by decide +kernel
theorem dL_coded_37 : decode cL_coded 37 = .ok (.iadd, 1) := by decide +kernel
theorem dL_coded_38 : decode cL_coded 38 = .ok (.ireturn, 1) := by decide +kernel
theorem dL_letters_0 : decode cL_letters 0 = .ok (.iload_n 0, 1) := by decide +kernel
theorem dL_letters_1 : decode cL_letters 1 = .ok (.ifCond .ne 19, 3) := by decide +kernel
theorem dL_letters_4 : decode cL_letters 4 = .ok (.bipush 82, 2) := by decide +kernel
theorem dL_letters_6 : decode cL_letters 6 = .ok (.bipush 69, 2) := by decide +kernel
theorem dL_letters_8 : decode cL_letters 8 = .ok (.bipush 83, 2) := by decide +kernel
theorem dL_letters_10 : decode cL_letters 10 = .ok (.bipush 84, 2) := by decide +kernel
theorem dL_letters_12 : decode cL_letters 12 = .ok (.bipush 64, 2) := by decide +kernel
theorem dL_letters_14 : decode cL_letters 14 = .ok (.invokestatic 108, 3) := by decide +kernel
theorem dL_letters_17 : decode cL_letters 17 = .ok (.goto 100, 3) := by decide +kernel
theorem dL_letters_20 : decode cL_letters 20 = .ok (.iload_n 0, 1) := by decide +kernel
theorem dL_letters_21 : decode cL_letters 21 = .ok (.iconst 1, 1) := by decide +kernel
theorem dL_letters_22 : decode cL_letters 22 = .ok (.if_icmp .ne 19, 3) := by decide +kernel
theorem dL_letters_25 : decode cL_letters 25 = .ok (.bipush 87, 2) := by decide +kernel
theorem dL_letters_27 : decode cL_letters 27 = .ok (.bipush 69, 2) := by decide +kernel
theorem dL_letters_29 : decode cL_letters 29 = .ok (.bipush 69, 2) := by decide +kernel
theorem dL_letters_31 : decode cL_letters 31 = .ok (.bipush 75, 2) := by decide +kernel
theorem dL_letters_33 : decode cL_letters 33 = .ok (.bipush 64, 2) := by decide +kernel
theorem dL_letters_35 : decode cL_letters 35 = .ok (.invokestatic 108, 3) := by decide +kernel
theorem dL_letters_38 : decode cL_letters 38 = .ok (.goto 79, 3) := by decide +kernel
theorem dL_letters_41 : decode cL_letters 41 = .ok (.iload_n 0, 1) := by decide +kernel
theorem dL_letters_42 : decode cL_letters 42 = .ok (.iconst 2, 1) := by decide +kernel
theorem dL_letters_43 : decode cL_letters 43 = .ok (.if_icmp .ne 19, 3) := by decide +kernel
theorem dL_letters_46 : decode cL_letters 46 = .ok (.bipush 82, 2) := by decide +kernel
theorem dL_letters_48 : decode cL_letters 48 = .ok (.bipush 79, 2) := by decide +kernel
theorem dL_letters_50 : decode cL_letters 50 = .ok (.bipush 87, 2) := by decide +kernel
theorem dL_letters_52 : decode cL_letters 52 = .ok (.bipush 64, 2) := by decide +kernel
theorem dL_letters_54 : decode cL_letters 54 = .ok (.bipush 64, 2) := by decide +kernel
theorem dL_letters_56 : decode cL_letters 56 = .ok (.invokestatic 108, 3) := by decide +kernel
theorem dL_letters_59 : decode cL_letters 59 = .ok (.goto 58, 3) := by decide +kernel
theorem dL_letters_62 : decode cL_letters 62 = .ok (.iload_n 0, 1) := by decide +kernel
theorem dL_letters_63 : decode cL_letters 63 = .ok (.iconst 3, 1) := by decide +kernel
theorem dL_letters_64 : decode cL_letters 64 = .ok (.if_icmp .ne 19, 3) := by decide +kernel
theorem dL_letters_67 : decode cL_letters 67 = .ok (.bipush 76, 2) := by decide +kernel
theorem dL_letters_69 : decode cL_letters 69 = .ok (.bipush 79, 2) := by decide +kernel
theorem dL_letters_71 : decode cL_letters 71 = .ok (.bipush 78, 2) := by decide +kernel
theorem dL_letters_73 : decode cL_letters 73 = .ok (.bipush 71, 2) := by decide +kernel
theorem dL_letters_75 : decode cL_letters 75 = .ok (.bipush 64, 2) := by decide +kernel
theorem dL_letters_77 : decode cL_letters 77 = .ok (.invokestatic 108, 3) := by decide +kernel
theorem dL_letters_80 : decode cL_letters 80 = .ok (.goto 37, 3) := by decide +kernel
theorem dL_letters_83 : decode cL_letters 83 = .ok (.iload_n 0, 1) := by decide +kernel
theorem dL_letters_84 : decode cL_letters 84 = .ok (.iconst 4, 1) := by decide +kernel
theorem dL_letters_85 : decode cL_letters 85 = .ok (.if_icmp .ne 19, 3) := by decide +kernel
theorem dL_letters_88 : decode cL_letters 88 = .ok (.bipush 83, 2) := by decide +kernel
theorem dL_letters_90 : decode cL_letters 90 = .ok (.bipush 75, 2) := by decide +kernel
theorem dL_letters_92 : decode cL_letters 92 = .ok (.bipush 73, 2) := by decide +kernel
theorem dL_letters_94 : decode cL_letters 94 = .ok (.bipush 76, 2) := by decide +kernel
theorem dL_letters_96 : decode cL_letters 96 = .ok (.bipush 76, 2) := by decide +kernel
theorem dL_letters_98 : decode cL_letters 98 = .ok (.invokestatic 108, 3) := by decide +kernel
theorem dL_letters_101 : decode cL_letters 101 = .ok (.goto 16, 3) := by decide +kernel
theorem dL_letters_104 : decode cL_letters 104 = .ok (.bipush 80, 2) := by decide +kernel
theorem dL_letters_106 : decode cL_letters 106 = .ok (.bipush 65, 2) := by decide +kernel
theorem dL_letters_108 : decode cL_letters 108 = .ok (.bipush 89, 2) := by decide +kernel
theorem dL_letters_110 : decode cL_letters 110 = .ok (.bipush 64, 2) := by decide +kernel
theorem dL_letters_112 : decode cL_letters 112 = .ok (.bipush 64, 2) := by decide +kernel
theorem dL_letters_114 : decode cL_letters 114 = .ok (.invokestatic 108, 3) := by decide +kernel
theorem dL_letters_117 : decode cL_letters 117 = .ok (.ireturn, 1) := by decide +kernel
theorem dL_word_0 : decode cL_word 0 = .ok (.iload_n 1, 1) := by decide +kernel
theorem dL_word_1 : decode cL_word 1 = .ok (.iconst 1, 1) := by decide +kernel
theorem dL_word_2 : decode cL_word 2 = .ok (.iadd, 1) := by decide +kernel
theorem dL_word_3 : decode cL_word 3 = .ok (.istore 5, 2) := by decide +kernel
theorem dL_word_5 : decode cL_word 5 = .ok (.aload_n 0, 1) := by decide +kernel
theorem dL_word_6 : decode cL_word 6 = .ok (.bipush 32, 2) := by decide +kernel
theorem dL_word_8 : decode cL_word 8 = .ok (.invokestatic 112, 3) := by decide +kernel
theorem dL_word_11 : decode cL_word 11 = .ok (.iload 5, 2) := by decide +kernel
theorem dL_word_13 : decode cL_word 13 = .ok (.if_icmp .ne 7, 3) := by decide +kernel
theorem dL_word_16 : decode cL_word 16 = .ok (.iconst 1, 1) := by decide +kernel
theorem dL_word_17 : decode cL_word 17 = .ok (.goto 4, 3) := by decide +kernel
theorem dL_word_20 : decode cL_word 20 = .ok (.iconst 0, 1) := by decide +kernel
theorem dL_word_21 : decode cL_word 21 = .ok (.istore 6, 2) := by decide +kernel
theorem dL_word_23 : decode cL_word 23 = .ok (.iload_n 2, 1) := by decide +kernel
theorem dL_word_24 : decode cL_word 24 = .ok (.istore 7, 2) := by decide +kernel
theorem dL_word_26 : decode cL_word 26 = .ok (.iload 7, 2) := by decide +kernel
theorem dL_word_28 : decode cL_word 28 = .ok (.ifCond .le 44, 3) := by decide +kernel
theorem dL_word_31 : decode cL_word 31 = .ok (.iinc 5 1, 3) := by decide +kernel
theorem dL_word_34 : decode cL_word 34 = .ok (.iload 6, 2) := by decide +kernel
theorem dL_word_36 : decode cL_word 36 = .ok (.ifCond .eq 24, 3) := by decide +kernel
theorem dL_word_39 : decode cL_word 39 = .ok (.aload_n 0, 1) := by decide +kernel
theorem dL_word_40 : decode cL_word 40 = .ok (.bipush 64, 2) := by decide +kernel
theorem dL_word_42 : decode cL_word 42 = .ok (.iload 7, 2) := by decide +kernel
theorem dL_word_44 : decode cL_word 44 = .ok (.bipush 32, 2) := by decide +kernel
theorem dL_word_46 : decode cL_word 46 = .ok (.irem, 1) := by decide +kernel
theorem dL_word_47 : decode cL_word 47 = .ok (.iadd, 1) := by decide +kernel
theorem dL_word_48 : decode cL_word 48 = .ok (.invokestatic 112, 3) := by decide +kernel
theorem dL_word_51 : decode cL_word 51 = .ok (.iload 5, 2) := by decide +kernel
theorem dL_word_53 : decode cL_word 53 = .ok (.if_icmp .ne 7, 3) := by decide +kernel
theorem dL_word_56 : decode cL_word 56 = .ok (.iconst 1, 1) := by decide +kernel
theorem dL_word_57 : decode cL_word 57 = .ok (.goto 4, 3) := by decide +kernel
theorem dL_word_60 : decode cL_word 60 = .ok (.iconst 0, 1) := by decide +kernel
theorem dL_word_61 : decode cL_word 61 = .ok (.istore 6, 2) := by decide +kernel
theorem dL_word_63 : decode cL_word 63 = .ok (.iload 7, 2) := by decide +kernel
theorem dL_word_65 : decode cL_word 65 = .ok (.iconst 5, 1) := by decide +kernel
theorem dL_word_66 : decode cL_word 66 = .ok (.ishr, 1) := by decide +kernel
theorem dL_word_67 : decode cL_word 67 = .ok (.istore 7, 2) := by decide +kernel
theorem dL_word_69 : decode cL_word 69 = .ok (.goto (-43), 3) := by decide +kernel
theorem dL_word_72 : decode cL_word 72 = .ok (.iload 4, 2) := by decide +kernel
theorem dL_word_74 : decode cL_word 74 = .ok (.iconst 3, 1) := by decide +kernel
theorem dL_word_75 : decode cL_word 75 = .ok (.if_icmp .ne 8, 3) := by decide +kernel
theorem dL_word_78 : decode cL_word 78 = .ok (.bipush 100, 2) := by decide +kernel
theorem dL_word_80 : decode cL_word 80 = .ok (.goto 16, 3) := by decide +kernel
theorem dL_word_83 : decode cL_word 83 = .ok (.iload 4, 2) := by decide +kernel
theorem dL_word_85 : decode cL_word 85 = .ok (.iconst 2, 1) := by decide +kernel
theorem dL_word_86 : decode cL_word 86 = .ok (.if_icmp .ne 8, 3) := by decide +kernel
theorem dL_word_89 : decode cL_word 89 = .ok (.bipush 10, 2) := by decide +kernel
theorem dL_word_91 : decode cL_word 91 = .ok (.goto 5, 3) := by decide +kernel
theorem dL_word_94 : decode cL_word 94 = .ok (.iload 4, 2) := by decide +kernel
theorem dL_word_96 : decode cL_word 96 = .ok (.istore 7, 2) := by decide +kernel
theorem dL_word_98 : decode cL_word 98 = .ok (.iload 7, 2) := by decide +kernel
theorem dL_word_100 : decode cL_word 100 = .ok (.ifCond .le 47, 3) := by decide +kernel
theorem dL_word_103 : decode cL_word 103 = .ok (.iinc 5 1, 3) := by decide +kernel
theorem dL_word_106 : decode cL_word 106 = .ok (.iload 6, 2) := by decide +kernel
theorem dL_word_108 : decode cL_word 108 = .ok (.ifCond .eq 26, 3) := by decide +kernel
theorem dL_word_111 : decode cL_word 111 = .ok (.aload_n 0, 1) := by decide +kernel
theorem dL_word_112 : decode cL_word 112 = .ok (.bipush 48, 2) := by decide +kernel
theorem dL_word_114 : decode cL_word 114 = .ok (.iload_n 3, 1) := by decide +kernel
theorem dL_word_115 : decode cL_word 115 = .ok (.iload 7, 2) := by decide +kernel
theorem dL_word_117 : decode cL_word 117 = .ok (.idiv, 1) := by decide +kernel
theorem dL_word_118 : decode cL_word 118 = .ok (.bipush 10, 2) := by decide +kernel
theorem dL_word_120 : decode cL_word 120 = .ok (.irem, 1) := by decide +kernel
theorem dL_word_121 : decode cL_word 121 = .ok (.iadd, 1) := by decide +kernel
theorem dL_word_122 : decode cL_word 122 = .ok (.invokestatic 112, 3) := by decide +kernel
theorem dL_word_125 : decode cL_word 125 = .ok (.iload 5, 2) := by decide +kernel
theorem dL_word_127 : decode cL_word 127 = .ok (.if_icmp .ne 7, 3) := by decide +kernel
theorem dL_word_130 : decode cL_word 130 = .ok (.iconst 1, 1) := by decide +kernel
theorem dL_word_131 : decode cL_word 131 = .ok (.goto 4, 3) := by decide +kernel
theorem dL_word_134 : decode cL_word 134 = .ok (.iconst 0, 1) := by decide +kernel
theorem dL_word_135 : decode cL_word 135 = .ok (.istore 6, 2) := by decide +kernel
theorem dL_word_137 : decode cL_word 137 = .ok (.iload 7, 2) := by decide +kernel
theorem dL_word_139 : decode cL_word 139 = .ok (.bipush 10, 2) := by decide +kernel
theorem dL_word_141 : decode cL_word 141 = .ok (.idiv, 1) := by decide +kernel
theorem dL_word_142 : decode cL_word 142 = .ok (.istore 7, 2) := by decide +kernel
theorem dL_word_144 : decode cL_word 144 = .ok (.goto (-46), 3) := by decide +kernel
theorem dL_word_147 : decode cL_word 147 = .ok (.iload 6, 2) := by decide +kernel
theorem dL_word_149 : decode cL_word 149 = .ok (.ifCond .eq 8, 3) := by decide +kernel
theorem dL_word_152 : decode cL_word 152 = .ok (.iload 5, 2) := by decide +kernel
theorem dL_word_154 : decode cL_word 154 = .ok (.goto 4, 3) := by decide +kernel
theorem dL_word_157 : decode cL_word 157 = .ok (.iconst (-1), 1) := by decide +kernel
theorem dL_word_158 : decode cL_word 158 = .ok (.ireturn, 1) := by decide +kernel
theorem dL_texts_0 : decode cL_texts 0 = .ok (.iload_n 1, 1) := by decide +kernel
theorem dL_texts_1 : decode cL_texts 1 = .ok (.iconst 4, 1) := by decide +kernel
theorem dL_texts_2 : decode cL_texts 2 = .ok (.invokestatic 116, 3) := by decide +kernel
theorem dL_texts_5 : decode cL_texts 5 = .ok (.istore 7, 2) := by decide +kernel
theorem dL_texts_7 : decode cL_texts 7 = .ok (.iload 7, 2) := by decide +kernel
theorem dL_texts_9 : decode cL_texts 9 = .ok (.iconst 2, 1) := by decide +kernel
theorem dL_texts_10 : decode cL_texts 10 = .ok (.if_icmp .ne 15, 3) := by decide +kernel
theorem dL_texts_13 : decode cL_texts 13 = .ok (.iconst 1, 1) := by decide +kernel
theorem dL_texts_14 : decode cL_texts 14 = .ok (.iload_n 1, 1) := by decide +kernel
theorem dL_texts_15 : decode cL_texts 15 = .ok (.iconst 3, 1) := by decide +kernel
theorem dL_texts_16 : decode cL_texts 16 = .ok (.ishr, 1) := by decide +kernel
theorem dL_texts_17 : decode cL_texts 17 = .ok (.iconst 3, 1) := by decide +kernel
theorem dL_texts_18 : decode cL_texts 18 = .ok (.invokestatic 116, 3) := by decide +kernel
theorem dL_texts_21 : decode cL_texts 21 = .ok (.iadd, 1) := by decide +kernel
theorem dL_texts_22 : decode cL_texts 22 = .ok (.goto 32, 3) := by decide +kernel
theorem dL_texts_25 : decode cL_texts 25 = .ok (.iload 7, 2) := by decide +kernel
theorem dL_texts_27 : decode cL_texts 27 = .ok (.iconst 1, 1) := by decide +kernel
theorem dL_texts_28 : decode cL_texts 28 = .ok (.if_icmp .ne 16, 3) := by decide +kernel
theorem dL_texts_31 : decode cL_texts 31 = .ok (.iconst 5, 1) := by decide +kernel
theorem dL_texts_32 : decode cL_texts 32 = .ok (.iload_n 1, 1) := by decide +kernel
theorem dL_texts_33 : decode cL_texts 33 = .ok (.iconst 3, 1) := by decide +kernel
theorem dL_texts_34 : decode cL_texts 34 = .ok (.ishr, 1) := by decide +kernel
theorem dL_texts_35 : decode cL_texts 35 = .ok (.bipush 40, 2) := by decide +kernel
theorem dL_texts_37 : decode cL_texts 37 = .ok (.invokestatic 116, 3) := by decide +kernel
theorem dL_texts_40 : decode cL_texts 40 = .ok (.iadd, 1) := by decide +kernel
theorem dL_texts_41 : decode cL_texts 41 = .ok (.goto 13, 3) := by decide +kernel
theorem dL_texts_44 : decode cL_texts 44 = .ok (.iconst 1, 1) := by decide +kernel
theorem dL_texts_45 : decode cL_texts 45 = .ok (.iload_n 1, 1) := by decide +kernel
theorem dL_texts_46 : decode cL_texts 46 = .ok (.iconst 3, 1) := by decide +kernel
theorem dL_texts_47 : decode cL_texts 47 = .ok (.ishr, 1) := by decide +kernel
theorem dL_texts_48 : decode cL_texts 48 = .ok (.bipush 20, 2) := by decide +kernel
theorem dL_texts_50 : decode cL_texts 50 = .ok (.invokestatic 116, 3) := by decide +kernel
theorem dL_texts_53 : decode cL_texts 53 = .ok (.iadd, 1) := by decide +kernel
theorem dL_texts_54 : decode cL_texts 54 = .ok (.istore 8, 2) := by decide +kernel
theorem dL_texts_56 : decode cL_texts 56 = .ok (.iload_n 1, 1) := by decide +kernel
theorem dL_texts_57 : decode cL_texts 57 = .ok (.iconst 5, 1) := by decide +kernel
theorem dL_texts_58 : decode cL_texts 58 = .ok (.ishr, 1) := by decide +kernel
theorem dL_texts_59 : decode cL_texts 59 = .ok (.iconst 3, 1) := by decide +kernel
theorem dL_texts_60 : decode cL_texts 60 = .ok (.invokestatic 116, 3) := by decide +kernel
theorem dL_texts_63 : decode cL_texts 63 = .ok (.ifCond .ne 14, 3) := by decide +kernel
theorem dL_texts_66 : decode cL_texts 66 = .ok (.iload_n 1, 1) := by decide +kernel
theorem dL_texts_67 : decode cL_texts 67 = .ok (.bipush 6, 2) := by decide +kernel
theorem dL_texts_69 : decode cL_texts 69 = .ok (.ishr, 1) := by decide +kernel
theorem dL_texts_70 : decode cL_texts 70 = .ok (.iconst 4, 1) := by decide +kernel
theorem dL_texts_71 : decode cL_texts 71 = .ok (.invokestatic 116, 3) := by decide +kernel
theorem dL_texts_74 : decode cL_texts 74 = .ok (.goto 4, 3) := by decide +kernel
theorem dL_texts_77 : decode cL_texts 77 = .ok (.iconst (-1), 1) := by decide +kernel
theorem dL_texts_78 : decode cL_texts 78 = .ok (.istore 9, 2) := by decide +kernel
theorem dL_texts_80 : decode cL_texts 80 = .ok (.iload_n 1, 1) := by decide +kernel
theorem dL_texts_81 : decode cL_texts 81 = .ok (.iconst 4, 1) := by decide +kernel
theorem dL_texts_82 : decode cL_texts 82 = .ok (.ishr, 1) := by decide +kernel
theorem dL_texts_83 : decode cL_texts 83 = .ok (.sipush 201, 3) := by decide +kernel
theorem dL_texts_86 : decode cL_texts 86 = .ok (.invokestatic 116, 3) := by decide +kernel
theorem dL_texts_89 : decode cL_texts 89 = .ok (.istore 10, 2) := by decide +kernel
theorem dL_texts_91 : decode cL_texts 91 = .ok (.iload_n 1, 1) := by decide +kernel
theorem dL_texts_92 : decode cL_texts 92 = .ok (.bipush 7, 2) := by decide +kernel
theorem dL_texts_94 : decode cL_texts 94 = .ok (.ishr, 1) := by decide +kernel
theorem dL_texts_95 : decode cL_texts 95 = .ok (.iconst 3, 1) := by decide +kernel
theorem dL_texts_96 : decode cL_texts 96 = .ok (.invokestatic 116, 3) := by decide +kernel
theorem dL_texts_99 : decode cL_texts 99 = .ok (.ifCond .le 7, 3) := by decide +kernel
theorem dL_texts_102 : decode cL_texts 102 = .ok (.iconst 0, 1) := by decide +kernel
theorem dL_texts_103 : decode cL_texts 103 = .ok (.goto 14, 3) := by decide +kernel
theorem dL_texts_106 : decode cL_texts 106 = .ok (.iconst 1, 1) := by decide +kernel
theorem dL_texts_107 : decode cL_texts 107 = .ok (.iload_n 1, 1) := by decide +kernel
theorem dL_texts_108 : decode cL_texts 108 = .ok (.bipush 8, 2) := by decide +kernel
theorem dL_texts_110 : decode cL_texts 110 = .ok (.ishr, 1) := by decide +kernel
theorem dL_texts_111 : decode cL_texts 111 = .ok (.bipush 6, 2) := by decide +kernel
theorem dL_texts_113 : decode cL_texts 113 = .ok (.invokestatic 116, 3) := by decide +kernel
theorem dL_texts_116 : decode cL_texts 116 = .ok (.iadd, 1) := by decide +kernel
theorem dL_texts_117 : decode cL_texts 117 = .ok (.istore 11, 2) := by decide +kernel
theorem dL_texts_119 : decode cL_texts 119 = .ok (.iconst (-1), 1) := by decide +kernel
theorem dL_texts_120 : decode cL_texts 120 = .ok (.istore 12, 2) := by decide +kernel
theorem dL_texts_122 : decode cL_texts 122 = .ok (.aload_n 0, 1) := by decide +kernel
theorem dL_texts_123 : decode cL_texts 123 = .ok (.iconst 0, 1) := by decide +kernel
theorem dL_texts_124 : decode cL_texts 124 = .ok (.iload 11, 2) := by decide +kernel
theorem dL_texts_126 : decode cL_texts 126 = .ok (.iconst 1, 1) := by decide +kernel
theorem dL_texts_127 : decode cL_texts 127 = .ok (.if_icmp .ne 7, 3) := by decide +kernel
theorem dL_texts_130 : decode cL_texts 130 = .ok (.iconst 5, 1) := by decide +kernel
theorem dL_texts_131 : decode cL_texts 131 = .ok (.goto 5, 3) := by decide +kernel
theorem dL_texts_134 : decode cL_texts 134 = .ok (.iload 7, 2) := by decide +kernel
theorem dL_texts_136 : decode cL_texts 136 = .ok (.invokestatic 119, 3) := by decide +kernel
theorem dL_texts_139 : decode cL_texts 139 = .ok (.iconst 0, 1) := by decide +kernel
theorem dL_texts_140 : decode cL_texts 140 = .ok (.iconst 0, 1) := by decide +kernel
theorem dL_texts_141 : decode cL_texts 141 = .ok (.invokestatic 122, 3) := by decide +kernel
theorem dL_texts_144 : decode cL_texts 144 = .ok (.istore 13, 2) := by decide +kernel
theorem dL_texts_146 : decode cL_texts 146 = .ok (.iload 11, 2) := by decide +kernel
theorem dL_texts_148 : decode cL_texts 148 = .ok (.iconst 1, 1) := by decide +kernel
theorem dL_texts_149 : decode cL_texts 149 = .ok (.if_icmp .ne 7, 3) := by decide +kernel
theorem dL_texts_152 : decode cL_texts 152 = .ok (.iconst 1, 1) := by decide +kernel
theorem dL_texts_153 : decode cL_texts 153 = .ok (.goto 4, 3) := by decide +kernel
theorem dL_texts_156 : decode cL_texts 156 = .ok (.iconst (-1), 1) := by decide +kernel
theorem dL_texts_157 : decode cL_texts 157 = .ok (.istore 12, 2) := by decide +kernel
theorem dL_texts_159 : decode cL_texts 159 = .ok (.iload 11, 2) := by decide +kernel
theorem dL_texts_161 : decode cL_texts 161 = .ok (.iconst 2, 1) := by decide +kernel
theorem dL_texts_162 : decode cL_texts 162 = .ok (.if_icmp .ne 10, 3) := by decide +kernel
theorem dL_texts_165 : decode cL_texts 165 = .ok (.iload 13, 2) := by decide +kernel
theorem dL_texts_167 : decode cL_texts 167 = .ok (.iconst 1, 1) := by decide +kernel
theorem dL_texts_168 : decode cL_texts 168 = .ok (.iadd, 1) := by decide +kernel
theorem dL_texts_169 : decode cL_texts 169 = .ok (.goto 5, 3) := by decide +kernel
theorem dL_texts_172 : decode cL_texts 172 = .ok (.iload 12, 2) := by decide +kernel
theorem dL_texts_174 : decode cL_texts 174 = .ok (.istore 12, 2) := by decide +kernel
theorem dL_texts_176 : decode cL_texts 176 = .ok (.aload_n 0, 1) := by decide +kernel
theorem dL_texts_177 : decode cL_texts 177 = .ok (.iload 13, 2) := by decide +kernel
theorem dL_texts_179 : decode cL_texts 179 = .ok (.iconst 0, 1) := by decide +kernel
theorem dL_texts_180 : decode cL_texts 180 = .ok (.iload 11, 2) := by decide +kernel
theorem dL_texts_182 : decode cL_texts 182 = .ok (.iconst 2, 1) := by decide +kernel
theorem dL_texts_183 : decode cL_texts 183 = .ok (.if_icmp .ne 15, 3) := by decide +kernel
theorem dL_texts_186 : decode cL_texts 186 = .ok (.sipush 201, 3) := by decide +kernel
theorem dL_texts_189 : decode cL_texts 189 = .ok (.iload_n 1, 1) := by decide +kernel
theorem dL_texts_190 : decode cL_texts 190 = .ok (.iconst 2, 1) := by decide +kernel
theorem dL_texts_191 : decode cL_texts 191 = .ok (.invokestatic 116, 3) := by decide +kernel
theorem dL_texts_194 : decode cL_texts 194 = .ok (.imul, 1) := by decide +kernel
theorem dL_texts_195 : decode cL_texts 195 = .ok (.goto 5, 3) := by decide +kernel
theorem dL_texts_198 : decode cL_texts 198 = .ok (.iload 8, 2) := by decide +kernel
theorem dL_texts_200 : decode cL_texts 200 = .ok (.iload 11, 2) := by decide +kernel
theorem dL_texts_202 : decode cL_texts 202 = .ok (.iconst 2, 1) := by decide +kernel
theorem dL_texts_203 : decode cL_texts 203 = .ok (.if_icmp .ne 7, 3) := by decide +kernel
theorem dL_texts_206 : decode cL_texts 206 = .ok (.iconst 3, 1) := by decide +kernel
theorem dL_texts_207 : decode cL_texts 207 = .ok (.goto 35, 3) := by decide +kernel
theorem dL_texts_210 : decode cL_texts 210 = .ok (.iload 8, 2) := by decide +kernel
theorem dL_texts_212 : decode cL_texts 212 = .ok (.bipush 99, 2) := by decide +kernel
theorem dL_texts_214 : decode cL_texts 214 = .ok (.if_icmp .le 7, 3) := by decide +kernel
theorem dL_texts_217 : decode cL_texts 217 = .ok (.iconst 3, 1) := by decide +kernel
theorem dL_texts_218 : decode cL_texts 218 = .ok (.goto 24, 3) := by decide +kernel
theorem dL_texts_221 : decode cL_texts 221 = .ok (.iload 8, 2) := by decide +kernel
theorem dL_texts_223 : decode cL_texts 223 = .ok (.bipush 9, 2) := by decide +kernel
theorem dL_texts_225 : decode cL_texts 225 = .ok (.if_icmp .le 7, 3) := by decide +kernel
theorem dL_texts_228 : decode cL_texts 228 = .ok (.iconst 2, 1) := by decide +kernel
theorem dL_texts_229 : decode cL_texts 229 = .ok (.goto 13, 3) := by decide +kernel
theorem dL_texts_232 : decode cL_texts 232 = .ok (.iconst 1, 1) := by decide +kernel
theorem dL_texts_233 : decode cL_texts 233 = .ok (.iload_n 1, 1) := by decide +kernel
theorem dL_texts_234 : decode cL_texts 234 = .ok (.bipush 9, 2) := by decide +kernel
theorem dL_texts_236 : decode cL_texts 236 = .ok (.ishr, 1) := by decide +kernel
theorem dL_texts_237 : decode cL_texts 237 = .ok (.iconst 3, 1) := by decide +kernel
theorem dL_texts_238 : decode cL_texts 238 = .ok (.invokestatic 116, 3) := by decide +kernel
theorem dL_texts_241 : decode cL_texts 241 = .ok (.iadd, 1) := by decide +kernel
theorem dL_texts_242 : decode cL_texts 242 = .ok (.invokestatic 122, 3) := by decide +kernel
theorem dL_texts_245 : decode cL_texts 245 = .ok (.istore 13, 2) := by decide +kernel
theorem dL_texts_247 : decode cL_texts 247 = .ok (.iload 9, 2) := by decide +kernel
theorem dL_texts_249 : decode cL_texts 249 = .ok (.ifCond .lt 61, 3) := by decide +kernel
theorem dL_texts_252 : decode cL_texts 252 = .ok (.aload_n 0, 1) := by decide +kernel
theorem dL_texts_253 : decode cL_texts 253 = .ok (.iload 13, 2) := by decide +kernel
theorem dL_texts_255 : decode cL_texts 255 = .ok (.iconst 4, 1) := by decide +kernel
theorem dL_texts_256 : decode cL_texts 256 = .ok (.invokestatic 119, 3) := by decide +kernel
theorem dL_texts_259 : decode cL_texts 259 = .ok (.iconst 0, 1) := by decide +kernel
theorem dL_texts_260 : decode cL_texts 260 = .ok (.iconst 0, 1) := by decide +kernel
theorem dL_texts_261 : decode cL_texts 261 = .ok (.invokestatic 122, 3) := by decide +kernel
theorem dL_texts_264 : decode cL_texts 264 = .ok (.istore 13, 2) := by decide +kernel
theorem dL_texts_266 : decode cL_texts 266 = .ok (.iload 11, 2) := by decide +kernel
theorem dL_texts_268 : decode cL_texts 268 = .ok (.iconst 3, 1) := by decide +kernel
theorem dL_texts_269 : decode cL_texts 269 = .ok (.if_icmp .ne 15, 3) := by decide +kernel
theorem dL_texts_272 : decode cL_texts 272 = .ok (.iload 12, 2) := by decide +kernel
theorem dL_texts_274 : decode cL_texts 274 = .ok (.ifCond .ge 10, 3) := by decide +kernel
theorem dL_texts_277 : decode cL_texts 277 = .ok (.iload 13, 2) := by decide +kernel
theorem dL_texts_279 : decode cL_texts 279 = .ok (.iconst 1, 1) := by decide +kernel
theorem dL_texts_280 : decode cL_texts 280 = .ok (.iadd, 1) := by decide +kernel
theorem dL_texts_281 : decode cL_texts 281 = .ok (.goto 5, 3) := by decide +kernel
theorem dL_texts_284 : decode cL_texts 284 = .ok (.iload 12, 2) := by decide +kernel
theorem dL_texts_286 : decode cL_texts 286 = .ok (.istore 12, 2) := by decide +kernel
theorem dL_texts_288 : decode cL_texts 288 = .ok (.aload_n 0, 1) := by decide +kernel
theorem dL_texts_289 : decode cL_texts 289 = .ok (.iload 13, 2) := by decide +kernel
theorem dL_texts_291 : decode cL_texts 291 = .ok (.iconst 0, 1) := by decide +kernel
theorem dL_texts_292 : decode cL_texts 292 = .ok (.iload 11, 2) := by decide +kernel
theorem dL_texts_294 : decode cL_texts 294 = .ok (.iconst 3, 1) := by decide +kernel
theorem dL_texts_295 : decode cL_texts 295 = .ok (.if_icmp .ne 7, 3) := by decide +kernel
theorem dL_texts_298 : decode cL_texts 298 = .ok (.iconst 4, 1) := by decide +kernel
theorem dL_texts_299 : decode cL_texts 299 = .ok (.goto 5, 3) := by decide +kernel
theorem dL_texts_302 : decode cL_texts 302 = .ok (.iload 9, 2) := by decide +kernel
theorem dL_texts_304 : decode cL_texts 304 = .ok (.iconst 1, 1) := by decide +kernel
theorem dL_texts_305 : decode cL_texts 305 = .ok (.invokestatic 122, 3) := by decide +kernel
theorem dL_texts_308 : decode cL_texts 308 = .ok (.istore 13, 2) := by decide +kernel
theorem dL_texts_310 : decode cL_texts 310 = .ok (.iload 11, 2) := by decide +kernel
theorem dL_texts_312 : decode cL_texts 312 = .ok (.iconst 4, 1) := by decide +kernel
theorem dL_texts_313 : decode cL_texts 313 = .ok (.if_icmp .ne 10, 3) := by decide +kernel
theorem dL_texts_316 : decode cL_texts 316 = .ok (.iload 13, 2) := by decide +kernel
theorem dL_texts_318 : decode cL_texts 318 = .ok (.istore 12, 2) := by decide +kernel
theorem dL_texts_320 : decode cL_texts 320 = .ok (.goto 102, 3) := by decide +kernel
theorem dL_texts_323 : decode cL_texts 323 = .ok (.aload_n 0, 1) := by decide +kernel
theorem dL_texts_324 : decode cL_texts 324 = .ok (.iload 13, 2) := by decide +kernel
theorem dL_texts_326 : decode cL_texts 326 = .ok (.iconst 5, 1) := by decide +kernel
theorem dL_texts_327 : decode cL_texts 327 = .ok (.invokestatic 119, 3) := by decide +kernel
theorem dL_texts_330 : decode cL_texts 330 = .ok (.iconst 0, 1) := by decide +kernel
theorem dL_texts_331 : decode cL_texts 331 = .ok (.iconst 0, 1) := by decide +kernel
theorem dL_texts_332 : decode cL_texts 332 = .ok (.invokestatic 122, 3) := by decide +kernel
theorem dL_texts_335 : decode cL_texts 335 = .ok (.istore 13, 2) := by decide +kernel
theorem dL_texts_337 : decode cL_texts 337 = .ok (.iload 11, 2) := by decide +kernel
theorem dL_texts_339 : decode cL_texts 339 = .ok (.iconst 5, 1) := by decide +kernel
theorem dL_texts_340 : decode cL_texts 340 = .ok (.if_icmp .ne 10, 3) := by decide +kernel
theorem dL_texts_343 : decode cL_texts 343 = .ok (.iload 13, 2) := by decide +kernel
theorem dL_texts_345 : decode cL_texts 345 = .ok (.iconst 1, 1) := by decide +kernel
theorem dL_texts_346 : decode cL_texts 346 = .ok (.iadd, 1) := by decide +kernel
theorem dL_texts_347 : decode cL_texts 347 = .ok (.goto 5, 3) := by decide +kernel
theorem dL_texts_350 : decode cL_texts 350 = .ok (.iload 12, 2) := by decide +kernel
theorem dL_texts_352 : decode cL_texts 352 = .ok (.istore 12, 2) := by decide +kernel
theorem dL_texts_354 : decode cL_texts 354 = .ok (.aload_n 0, 1) := by decide +kernel
theorem dL_texts_355 : decode cL_texts 355 = .ok (.iload 13, 2) := by decide +kernel
theorem dL_texts_357 : decode cL_texts 357 = .ok (.iconst 0, 1) := by decide +kernel
theorem dL_texts_358 : decode cL_texts 358 = .ok (.iload 11, 2) := by decide +kernel
theorem dL_texts_360 : decode cL_texts 360 = .ok (.iconst 5, 1) := by decide +kernel
theorem dL_texts_361 : decode cL_texts 361 = .ok (.if_icmp .ne 9, 3) := by decide +kernel
theorem dL_texts_364 : decode cL_texts 364 = .ok (.sipush 999, 3) := by decide +kernel
theorem dL_texts_367 : decode cL_texts 367 = .ok (.goto 5, 3) := by decide +kernel
theorem dL_texts_370 : decode cL_texts 370 = .ok (.iload 10, 2) := by decide +kernel
theorem dL_texts_372 : decode cL_texts 372 = .ok (.iconst 3, 1) := by decide +kernel
theorem dL_texts_373 : decode cL_texts 373 = .ok (.invokestatic 122, 3) := by decide +kernel
theorem dL_texts_376 : decode cL_texts 376 = .ok (.istore 13, 2) := by decide +kernel
theorem dL_texts_378 : decode cL_texts 378 = .ok (.iload 11, 2) := by decide +kernel
theorem dL_texts_380 : decode cL_texts 380 = .ok (.bipush 6, 2) := by decide +kernel
theorem dL_texts_382 : decode cL_texts 382 = .ok (.if_icmp .ne 10, 3) := by decide +kernel
theorem dL_texts_385 : decode cL_texts 385 = .ok (.iload 13, 2) := by decide +kernel
theorem dL_texts_387 : decode cL_texts 387 = .ok (.iconst 1, 1) := by decide +kernel
theorem dL_texts_388 : decode cL_texts 388 = .ok (.iadd, 1) := by decide +kernel
theorem dL_texts_389 : decode cL_texts 389 = .ok (.goto 5, 3) := by decide +kernel
theorem dL_texts_392 : decode cL_texts 392 = .ok (.iload 12, 2) := by decide +kernel
theorem dL_texts_394 : decode cL_texts 394 = .ok (.istore 12, 2) := by decide +kernel
theorem dL_texts_396 : decode cL_texts 396 = .ok (.iload 11, 2) := by decide +kernel
theorem dL_texts_398 : decode cL_texts 398 = .ok (.bipush 6, 2) := by decide +kernel
theorem dL_texts_400 : decode cL_texts 400 = .ok (.if_icmp .ne 18, 3) := by decide +kernel
theorem dL_texts_403 : decode cL_texts 403 = .ok (.aload_n 0, 1) := by decide +kernel
theorem dL_texts_404 : decode cL_texts 404 = .ok (.iload 13, 2) := by decide +kernel
theorem dL_texts_406 : decode cL_texts 406 = .ok (.iconst 2, 1) := by decide +kernel
theorem dL_texts_407 : decode cL_texts 407 = .ok (.invokestatic 119, 3) := by decide +kernel
theorem dL_texts_410 : decode cL_texts 410 = .ok (.iconst 0, 1) := by decide +kernel
theorem dL_texts_411 : decode cL_texts 411 = .ok (.iconst 0, 1) := by decide +kernel
theorem dL_texts_412 : decode cL_texts 412 = .ok (.invokestatic 122, 3) := by decide +kernel
theorem dL_texts_415 : decode cL_texts 415 = .ok (.goto 5, 3) := by decide +kernel
theorem dL_texts_418 : decode cL_texts 418 = .ok (.iload 13, 2) := by decide +kernel
theorem dL_texts_420 : decode cL_texts 420 = .ok (.istore 13, 2) := by decide +kernel
theorem dL_texts_422 : decode cL_texts 422 = .ok (.iload 13, 2) := by decide +kernel
theorem dL_texts_424 : decode cL_texts 424 = .ok (.ifCond .lt 19, 3) := by decide +kernel
theorem dL_texts_427 : decode cL_texts 427 = .ok (.iload 13, 2) := by decide +kernel
theorem dL_texts_429 : decode cL_texts 429 = .ok (.bipush 40, 2) := by decide +kernel
theorem dL_texts_431 : decode cL_texts 431 = .ok (.if_icmp .gt 12, 3) := by decide +kernel
theorem dL_texts_434 : decode cL_texts 434 = .ok (.aload_n 0, 1) := by decide +kernel
theorem dL_texts_435 : decode cL_texts 435 = .ok (.invokevirtual 126, 3) := by decide +kernel
theorem dL_texts_438 : decode cL_texts 438 = .ok (.iload 12, 2) := by decide +kernel
theorem dL_texts_440 : decode cL_texts 440 = .ok (.if_icmp .eq 5, 3) := by decide +kernel
theorem dL_texts_443 : decode cL_texts 443 = .ok (.iconst 0, 1) := by decide +kernel
theorem dL_texts_444 : decode cL_texts 444 = .ok (.ireturn, 1) := by decide +kernel
theorem dL_texts_445 : decode cL_texts 445 = .ok (.iload 12, 2) := by decide +kernel
theorem dL_texts_447 : decode cL_texts 447 = .ok (.ifCond .ge 10, 3) := by decide +kernel
theorem dL_texts_450 : decode cL_texts 450 = .ok (.aload_n 2, 1) := by decide +kernel
theorem dL_texts_451 : decode cL_texts 451 = .ok (.iconst 2, 1) := by decide +kernel
theorem dL_texts_452 : decode cL_texts 452 = .ok (.iaload, 1) := by decide +kernel
theorem dL_texts_453 : decode cL_texts 453 = .ok (.iconst 4, 1) := by decide +kernel
theorem dL_texts_454 : decode cL_texts 454 = .ok (.if_icmp .ne 33, 3) := by decide +kernel
theorem dL_texts_457 : decode cL_texts 457 = .ok (.iload 12, 2) := by decide +kernel
theorem dL_texts_459 : decode cL_texts 459 = .ok (.ifCond .lt 13, 3) := by decide +kernel
theorem dL_texts_462 : decode cL_texts 462 = .ok (.aload_n 0, 1) := by decide +kernel
theorem dL_texts_463 : decode cL_texts 463 = .ok (.invokestatic 129, 3) := by decide +kernel
theorem dL_texts_466 : decode cL_texts 466 = .ok (.sipush (-1002), 3) := by decide +kernel
theorem dL_texts_469 : decode cL_texts 469 = .ok (.if_icmp .ne 16, 3) := by decide +kernel
theorem dL_texts_472 : decode cL_texts 472 = .ok (.aload_n 0, 1) := by decide +kernel
theorem dL_texts_473 : decode cL_texts 473 = .ok (.invokevirtual 133, 3) := by decide +kernel
theorem dL_texts_476 : decode cL_texts 476 = .ok (.iload 13, 2) := by decide +kernel
theorem dL_texts_478 : decode cL_texts 478 = .ok (.if_icmp .ne 7, 3) := by decide +kernel
theorem dL_texts_481 : decode cL_texts 481 = .ok (.iconst 1, 1) := by decide +kernel
theorem dL_texts_482 : decode cL_texts 482 = .ok (.goto 4, 3) := by decide +kernel
theorem dL_texts_485 : decode cL_texts 485 = .ok (.iconst 0, 1) := by decide +kernel
theorem dL_texts_486 : decode cL_texts 486 = .ok (.ireturn, 1) := by decide +kernel
theorem dL_texts_487 : decode cL_texts 487 = .ok (.aload 4, 2) := by decide +kernel
theorem dL_texts_489 : decode cL_texts 489 = .ok (.aload_n 2, 1) := by decide +kernel
theorem dL_texts_490 : decode cL_texts 490 = .ok (.iconst 2, 1) := by decide +kernel
theorem dL_texts_491 : decode cL_texts 491 = .ok (.iaload, 1) := by decide +kernel
theorem dL_texts_492 : decode cL_texts 492 = .ok (.iload 7, 2) := by decide +kernel
theorem dL_texts_494 : decode cL_texts 494 = .ok (.iastore, 1) := by decide +kernel
theorem dL_texts_495 : decode cL_texts 495 = .ok (.aload 4, 2) := by decide +kernel
theorem dL_texts_497 : decode cL_texts 497 = .ok (.iconst 4, 1) := by decide +kernel
theorem dL_texts_498 : decode cL_texts 498 = .ok (.aload_n 2, 1) := by decide +kernel
theorem dL_texts_499 : decode cL_texts 499 = .ok (.iconst 2, 1) := by decide +kernel
theorem dL_texts_500 : decode cL_texts 500 = .ok (.iaload, 1) := by decide +kernel
theorem dL_texts_501 : decode cL_texts 501 = .ok (.iadd, 1) := by decide +kernel
theorem dL_texts_502 : decode cL_texts 502 = .ok (.iload 8, 2) := by decide +kernel
theorem dL_texts_504 : decode cL_texts 504 = .ok (.iastore, 1) := by decide +kernel
theorem dL_texts_505 : decode cL_texts 505 = .ok (.aload 4, 2) := by decide +kernel
theorem dL_texts_507 : decode cL_texts 507 = .ok (.bipush 8, 2) := by decide +kernel
theorem dL_texts_509 : decode cL_texts 509 = .ok (.aload_n 2, 1) := by decide +kernel
theorem dL_texts_510 : decode cL_texts 510 = .ok (.iconst 2, 1) := by decide +kernel
theorem dL_texts_511 : decode cL_texts 511 = .ok (.iaload, 1) := by decide +kernel
theorem dL_texts_512 : decode cL_texts 512 = .ok (.iadd, 1) := by decide +kernel
theorem dL_texts_513 : decode cL_texts 513 = .ok (.iload 9, 2) := by decide +kernel
theorem dL_texts_515 : decode cL_texts 515 = .ok (.iastore, 1) := by decide +kernel
theorem dL_texts_516 : decode cL_texts 516 = .ok (.aload 4, 2) := by decide +kernel
theorem dL_texts_518 : decode cL_texts 518 = .ok (.bipush 12, 2) := by decide +kernel
theorem dL_texts_520 : decode cL_texts 520 = .ok (.aload_n 2, 1) := by decide +kernel
theorem dL_texts_521 : decode cL_texts 521 = .ok (.iconst 2, 1) := by decide +kernel
theorem dL_texts_522 : decode cL_texts 522 = .ok (.iaload, 1) := by decide +kernel
theorem dL_texts_523 : decode cL_texts 523 = .ok (.iadd, 1) := by decide +kernel
theorem dL_texts_524 : decode cL_texts 524 = .ok (.iload 10, 2) := by decide +kernel
theorem dL_texts_526 : decode cL_texts 526 = .ok (.iastore, 1) := by decide +kernel
theorem dL_texts_527 : decode cL_texts 527 = .ok (.aload 4, 2) := by decide +kernel
theorem dL_texts_529 : decode cL_texts 529 = .ok (.bipush 16, 2) := by decide +kernel
theorem dL_texts_531 : decode cL_texts 531 = .ok (.aload_n 2, 1) := by decide +kernel
theorem dL_texts_532 : decode cL_texts 532 = .ok (.iconst 2, 1) := by decide +kernel
theorem dL_texts_533 : decode cL_texts 533 = .ok (.iaload, 1) := by decide +kernel
theorem dL_texts_534 : decode cL_texts 534 = .ok (.iadd, 1) := by decide +kernel
theorem dL_texts_535 : decode cL_texts 535 = .ok (.iconst 0, 1) := by decide +kernel
theorem dL_texts_536 : decode cL_texts 536 = .ok (.iastore, 1) := by decide +kernel
theorem dL_texts_537 : decode cL_texts 537 = .ok (.aload_n 2, 1) := by decide +kernel
theorem dL_texts_538 : decode cL_texts 538 = .ok (.iconst 2, 1) := by decide +kernel
theorem dL_texts_539 : decode cL_texts 539 = .ok (.dup2, 1) := by decide +kernel
theorem dL_texts_540 : decode cL_texts 540 = .ok (.iaload, 1) := by decide +kernel
theorem dL_texts_541 : decode cL_texts 541 = .ok (.iconst 1, 1) := by decide +kernel
theorem dL_texts_542 : decode cL_texts 542 = .ok (.iadd, 1) := by decide +kernel
theorem dL_texts_543 : decode cL_texts 543 = .ok (.iastore, 1) := by decide +kernel
theorem dL_texts_544 : decode cL_texts 544 = .ok (.aload_n 2, 1) := by decide +kernel
theorem dL_texts_545 : decode cL_texts 545 = .ok (.aload_n 3, 1) := by decide +kernel
theorem dL_texts_546 : decode cL_texts 546 = .ok (.aload 4, 2) := by decide +kernel
theorem dL_texts_548 : decode cL_texts 548 = .ok (.aload 5, 2) := by decide +kernel
theorem dL_texts_550 : decode cL_texts 550 = .ok (.aload 6, 2) := by decide +kernel
theorem dL_texts_552 : decode cL_texts 552 = .ok (.invokestatic 136, 3) := by decide +kernel
theorem dL_texts_555 : decode cL_texts 555 = .ok (.pop, 1) := by decide +kernel
theorem dL_texts_556 : decode cL_texts 556 = .ok (.aload_n 0, 1) := by decide +kernel
theorem dL_texts_557 : decode cL_texts 557 = .ok (.invokestatic 129, 3) := by decide +kernel
theorem dL_texts_560 : decode cL_texts 560 = .ok (.aload_n 2, 1) := by decide +kernel
theorem dL_texts_561 : decode cL_texts 561 = .ok (.iconst 2, 1) := by decide +kernel
theorem dL_texts_562 : decode cL_texts 562 = .ok (.iaload, 1) := by decide +kernel
theorem dL_texts_563 : decode cL_texts 563 = .ok (.iconst 1, 1) := by decide +kernel
theorem dL_texts_564 : decode cL_texts 564 = .ok (.isub, 1) := by decide +kernel
theorem dL_texts_565 : decode cL_texts 565 = .ok (.if_icmp .ne 14, 3) := by decide +kernel
theorem dL_texts_568 : decode cL_texts 568 = .ok (.aload_n 0, 1) := by decide +kernel
theorem dL_texts_569 : decode cL_texts 569 = .ok (.invokevirtual 133, 3) := by decide +kernel
theorem dL_texts_572 : decode cL_texts 572 = .ok (.ifCond .ne 7, 3) := by decide +kernel
theorem dL_texts_575 : decode cL_texts 575 = .ok (.iconst 1, 1) := by decide +kernel
theorem dL_texts_576 : decode cL_texts 576 = .ok (.goto 4, 3) := by decide +kernel
theorem dL_texts_579 : decode cL_texts 579 = .ok (.iconst 0, 1) := by decide +kernel
theorem dL_texts_580 : decode cL_texts 580 = .ok (.ireturn, 1) := by decide +kernel
theorem dL_shifts_0 : decode cL_shifts 0 = .ok (.iload_n 2, 1) := by decide +kernel
theorem dL_shifts_1 : decode cL_shifts 1 = .ok (.aload_n 3, 1) := by decide +kernel
theorem dL_shifts_2 : decode cL_shifts 2 = .ok (.iconst 1, 1) := by decide +kernel
theorem dL_shifts_3 : decode cL_shifts 3 = .ok (.iaload, 1) := by decide +kernel
theorem dL_shifts_4 : decode cL_shifts 4 = .ok (.iconst 1, 1) := by decide +kernel
theorem dL_shifts_5 : decode cL_shifts 5 = .ok (.iadd, 1) := by decide +kernel
theorem dL_shifts_6 : decode cL_shifts 6 = .ok (.invokestatic 116, 3) := by decide +kernel
theorem dL_shifts_9 : decode cL_shifts 9 = .ok (.iload_n 2, 1) := by decide +kernel
theorem dL_shifts_10 : decode cL_shifts 10 = .ok (.bipush 11, 2) := by decide +kernel
theorem dL_shifts_12 : decode cL_shifts 12 = .ok (.ishr, 1) := by decide +kernel
theorem dL_shifts_13 : decode cL_shifts 13 = .ok (.bipush 23, 2) := by decide +kernel
theorem dL_shifts_15 : decode cL_shifts 15 = .ok (.invokestatic 116, 3) := by decide +kernel
theorem dL_shifts_18 : decode cL_shifts 18 = .ok (.ifCond .ne 7, 3) := by decide +kernel
theorem dL_shifts_21 : decode cL_shifts 21 = .ok (.iconst 1, 1) := by decide +kernel
theorem dL_shifts_22 : decode cL_shifts 22 = .ok (.goto 4, 3) := by decide +kernel
theorem dL_shifts_25 : decode cL_shifts 25 = .ok (.iconst 0, 1) := by decide +kernel
theorem dL_shifts_26 : decode cL_shifts 26 = .ok (.isub, 1) := by decide +kernel
theorem dL_shifts_27 : decode cL_shifts 27 = .ok (.istore 10, 2) := by decide +kernel
theorem dL_shifts_29 : decode cL_shifts 29 = .ok (.iload 10, 2) := by decide +kernel
theorem dL_shifts_31 : decode cL_shifts 31 = .ok (.ifCond .lt 15, 3) := by decide +kernel
theorem dL_shifts_34 : decode cL_shifts 34 = .ok (.iload 10, 2) := by decide +kernel
theorem dL_shifts_36 : decode cL_shifts 36 = .ok (.aload_n 3, 1) := by decide +kernel
theorem dL_shifts_37 : decode cL_shifts 37 = .ok (.iconst 1, 1) := by decide +kernel
theorem dL_shifts_38 : decode cL_shifts 38 = .ok (.iaload, 1) := by decide +kernel
theorem dL_shifts_39 : decode cL_shifts 39 = .ok (.if_icmp .ge 7, 3) := by decide +kernel
theorem dL_shifts_42 : decode cL_shifts 42 = .ok (.iconst 1, 1) := by decide +kernel
theorem dL_shifts_43 : decode cL_shifts 43 = .ok (.goto 4, 3) := by decide +kernel
theorem dL_shifts_46 : decode cL_shifts 46 = .ok (.iconst 0, 1) := by decide +kernel
theorem dL_shifts_47 : decode cL_shifts 47 = .ok (.istore 11, 2) := by decide +kernel
theorem dL_shifts_49 : decode cL_shifts 49 = .ok (.iload_n 1, 1) := by decide +kernel
theorem dL_shifts_50 : decode cL_shifts 50 = .ok (.ifCond .ne 178, 3) := by decide +kernel
theorem dL_shifts_53 : decode cL_shifts 53 = .ok (.iload_n 2, 1) := by decide +kernel
theorem dL_shifts_54 : decode cL_shifts 54 = .ok (.bipush 60, 2) := by decide +kernel
theorem dL_shifts_56 : decode cL_shifts 56 = .ok (.invokestatic 116, 3) := by decide +kernel
theorem dL_shifts_59 : decode cL_shifts 59 = .ok (.ifCond .ne 8, 3) := by decide +kernel
theorem dL_shifts_62 : decode cL_shifts 62 = .ok (.bipush 8, 2) := by decide +kernel
theorem dL_shifts_64 : decode cL_shifts 64 = .ok (.goto 8, 3) := by decide +kernel
theorem dL_shifts_67 : decode cL_shifts 67 = .ok (.iload_n 2, 1) := by decide +kernel
theorem dL_shifts_68 : decode cL_shifts 68 = .ok (.iconst 4, 1) := by decide +kernel
theorem dL_shifts_69 : decode cL_shifts 69 = .ok (.invokestatic 116, 3) := by decide +kernel
theorem dL_shifts_72 : decode cL_shifts 72 = .ok (.istore 12, 2) := by decide +kernel
theorem dL_shifts_74 : decode cL_shifts 74 = .ok (.iload_n 2, 1) := by decide +kernel
theorem dL_shifts_75 : decode cL_shifts 75 = .ok (.iconst 3, 1) := by decide +kernel
theorem dL_shifts_76 : decode cL_shifts 76 = .ok (.ishr, 1) := by decide +kernel
theorem dL_shifts_77 : decode cL_shifts 77 = .ok (.bipush 30, 2) := by decide +kernel
theorem dL_shifts_79 : decode cL_shifts 79 = .ok (.invokestatic 116, 3) := by decide +kernel
theorem dL_shifts_82 : decode cL_shifts 82 = .ok (.ifCond .ne 8, 3) := by decide +kernel
theorem dL_shifts_85 : decode cL_shifts 85 = .ok (.bipush 16, 2) := by decide +kernel
theorem dL_shifts_87 : decode cL_shifts 87 = .ok (.goto 26, 3) := by decide +kernel
theorem dL_shifts_90 : decode cL_shifts 90 = .ok (.iload_n 2, 1) := by decide +kernel
theorem dL_shifts_91 : decode cL_shifts 91 = .ok (.iconst 3, 1) := by decide +kernel
theorem dL_shifts_92 : decode cL_shifts 92 = .ok (.ishr, 1) := by decide +kernel
theorem dL_shifts_93 : decode cL_shifts 93 = .ok (.iconst 3, 1) := by decide +kernel
theorem dL_shifts_94 : decode cL_shifts 94 = .ok (.invokestatic 116, 3) := by decide +kernel
theorem dL_shifts_97 : decode cL_shifts 97 = .ok (.ifCond .ne 14, 3) := by decide +kernel
theorem dL_shifts_100 : decode cL_shifts 100 = .ok (.iload_n 2, 1) := by decide +kernel
theorem dL_shifts_101 : decode cL_shifts 101 = .ok (.iconst 4, 1) := by decide +kernel
theorem dL_shifts_102 : decode cL_shifts 102 = .ok (.ishr, 1) := by decide +kernel
theorem dL_shifts_103 : decode cL_shifts 103 = .ok (.bipush 16, 2) := by decide +kernel
theorem dL_shifts_105 : decode cL_shifts 105 = .ok (.invokestatic 116, 3) := by decide +kernel
theorem dL_shifts_108 : decode cL_shifts 108 = .ok (.goto 5, 3) := by decide +kernel
theorem dL_shifts_111 : decode cL_shifts 111 = .ok (.bipush 15, 2) := by decide +kernel
theorem dL_shifts_113 : decode cL_shifts 113 = .ok (.istore 13, 2) := by decide +kernel
theorem dL_shifts_115 : decode cL_shifts 115 = .ok (.iload_n 2, 1) := by decide +kernel
theorem dL_shifts_116 : decode cL_shifts 116 = .ok (.iconst 5, 1) := by decide +kernel
theorem dL_shifts_117 : decode cL_shifts 117 = .ok (.ishr, 1) := by decide +kernel
theorem dL_shifts_118 : decode cL_shifts 118 = .ok (.bipush 60, 2) := by decide +kernel
theorem dL_shifts_120 : decode cL_shifts 120 = .ok (.invokestatic 116, 3) := by decide +kernel
theorem dL_shifts_123 : decode cL_shifts 123 = .ok (.ifCond .ne 9, 3) := by decide +kernel
theorem dL_shifts_126 : decode cL_shifts 126 = .ok (.sipush 1001, 3) := by decide +kernel
theorem dL_shifts_129 : decode cL_shifts 129 = .ok (.goto 11, 3) := by decide +kernel
theorem dL_shifts_132 : decode cL_shifts 132 = .ok (.iload_n 2, 1) := by decide +kernel
theorem dL_shifts_133 : decode cL_shifts 133 = .ok (.iconst 5, 1) := by decide +kernel
theorem dL_shifts_134 : decode cL_shifts 134 = .ok (.ishr, 1) := by decide +kernel
theorem dL_shifts_135 : decode cL_shifts 135 = .ok (.bipush 100, 2) := by decide +kernel
theorem dL_shifts_137 : decode cL_shifts 137 = .ok (.invokestatic 116, 3) := by decide +kernel
theorem dL_shifts_140 : decode cL_shifts 140 = .ok (.istore 14, 2) := by decide +kernel
theorem dL_shifts_142 : decode cL_shifts 142 = .ok (.iload 12, 2) := by decide +kernel
theorem dL_shifts_144 : decode cL_shifts 144 = .ok (.bipush 7, 2) := by decide +kernel
theorem dL_shifts_146 : decode cL_shifts 146 = .ok (.if_icmp .le 9, 3) := by decide +kernel
theorem dL_shifts_149 : decode cL_shifts 149 = .ok (.sipush (-1001), 3) := by decide +kernel
theorem dL_shifts_152 : decode cL_shifts 152 = .ok (.goto 31, 3) := by decide +kernel
theorem dL_shifts_155 : decode cL_shifts 155 = .ok (.iload 13, 2) := by decide +kernel
theorem dL_shifts_157 : decode cL_shifts 157 = .ok (.bipush 15, 2) := by decide +kernel
theorem dL_shifts_159 : decode cL_shifts 159 = .ok (.if_icmp .gt 11, 3) := by decide +kernel
theorem dL_shifts_162 : decode cL_shifts 162 = .ok (.iload 14, 2) := by decide +kernel
theorem dL_shifts_164 : decode cL_shifts 164 = .ok (.sipush 1000, 3) := by decide +kernel
theorem dL_shifts_167 : decode cL_shifts 167 = .ok (.if_icmp .le 9, 3) := by decide +kernel
theorem dL_shifts_170 : decode cL_shifts 170 = .ok (.sipush (-1002), 3) := by decide +kernel
theorem dL_shifts_173 : decode cL_shifts 173 = .ok (.goto 10, 3) := by decide +kernel
theorem dL_shifts_176 : decode cL_shifts 176 = .ok (.aload 4, 2) := by decide +kernel
theorem dL_shifts_178 : decode cL_shifts 178 = .ok (.iconst 4, 1) := by decide +kernel
theorem dL_shifts_179 : decode cL_shifts 179 = .ok (.iload 12, 2) := by decide +kernel
theorem dL_shifts_181 : decode cL_shifts 181 = .ok (.iadd, 1) := by decide +kernel
theorem dL_shifts_182 : decode cL_shifts 182 = .ok (.iaload, 1) := by decide +kernel
theorem dL_shifts_183 : decode cL_shifts 183 = .ok (.istore 15, 2) := by decide +kernel
theorem dL_shifts_185 : decode cL_shifts 185 = .ok (.iload 15, 2) := by decide +kernel
theorem dL_shifts_187 : decode cL_shifts 187 = .ok (.ifCond .lt 19, 3) := by decide +kernel
theorem dL_shifts_190 : decode cL_shifts 190 = .ok (.aload 4, 2) := by decide +kernel
theorem dL_shifts_192 : decode cL_shifts 192 = .ok (.iload 12, 2) := by decide +kernel
theorem dL_shifts_194 : decode cL_shifts 194 = .ok (.iload 13, 2) := by decide +kernel
theorem dL_shifts_196 : decode cL_shifts 196 = .ok (.iastore, 1) := by decide +kernel
theorem dL_shifts_197 : decode cL_shifts 197 = .ok (.aload 4, 2) := by decide +kernel
theorem dL_shifts_199 : decode cL_shifts 199 = .ok (.iconst 4, 1) := by decide +kernel
theorem dL_shifts_200 : decode cL_shifts 200 = .ok (.iload 12, 2) := by decide +kernel
theorem dL_shifts_202 : decode cL_shifts 202 = .ok (.iadd, 1) := by decide +kernel
theorem dL_shifts_203 : decode cL_shifts 203 = .ok (.iload 14, 2) := by decide +kernel
theorem dL_shifts_205 : decode cL_shifts 205 = .ok (.iastore, 1) := by decide +kernel
theorem dL_shifts_206 : decode cL_shifts 206 = .ok (.aload_n 0, 1) := by decide +kernel
theorem dL_shifts_207 : decode cL_shifts 207 = .ok (.iconst 0, 1) := by decide +kernel
theorem dL_shifts_208 : decode cL_shifts 208 = .ok (.iload 12, 2) := by decide +kernel
theorem dL_shifts_210 : decode cL_shifts 210 = .ok (.iload 13, 2) := by decide +kernel
theorem dL_shifts_212 : decode cL_shifts 212 = .ok (.iload 14, 2) := by decide +kernel
theorem dL_shifts_214 : decode cL_shifts 214 = .ok (.invokestatic 140, 3) := by decide +kernel
theorem dL_shifts_217 : decode cL_shifts 217 = .ok (.iload 15, 2) := by decide +kernel
theorem dL_shifts_219 : decode cL_shifts 219 = .ok (.if_icmp .ne 7, 3) := by decide +kernel
theorem dL_shifts_222 : decode cL_shifts 222 = .ok (.iconst 1, 1) := by decide +kernel
theorem dL_shifts_223 : decode cL_shifts 223 = .ok (.goto 4, 3) := by decide +kernel
theorem dL_shifts_226 : decode cL_shifts 226 = .ok (.iconst 0, 1) := by decide +kernel
theorem dL_shifts_227 : decode cL_shifts 227 = .ok (.ireturn, 1) := by decide +kernel
theorem dL_shifts_228 : decode cL_shifts 228 = .ok (.iload_n 1, 1) := by decide +kernel
theorem dL_shifts_229 : decode cL_shifts 229 = .ok (.iconst 1, 1) := by decide +kernel
theorem dL_shifts_230 : decode cL_shifts 230 = .ok (.if_icmp .ne 267, 3) := by decide +kernel
theorem dL_shifts_233 : decode cL_shifts 233 = .ok (.iload_n 2, 1) := by decide +kernel
theorem dL_shifts_234 : decode cL_shifts 234 = .ok (.bipush 60, 2) := by decide +kernel
theorem dL_shifts_236 : decode cL_shifts 236 = .ok (.invokestatic 116, 3) := by decide +kernel
theorem dL_shifts_239 : decode cL_shifts 239 = .ok (.ifCond .ne 9, 3) := by decide +kernel
theorem dL_shifts_242 : decode cL_shifts 242 = .ok (.sipush 2001, 3) := by decide +kernel
theorem dL_shifts_245 : decode cL_shifts 245 = .ok (.goto 37, 3) := by decide +kernel
theorem dL_shifts_248 : decode cL_shifts 248 = .ok (.iload_n 2, 1) := by decide +kernel
theorem dL_shifts_249 : decode cL_shifts 249 = .ok (.iconst 3, 1) := by decide +kernel
theorem dL_shifts_250 : decode cL_shifts 250 = .ok (.ishr, 1) := by decide +kernel
theorem dL_shifts_251 : decode cL_shifts 251 = .ok (.iconst 2, 1) := by decide +kernel
theorem dL_shifts_252 : decode cL_shifts 252 = .ok (.invokestatic 116, 3) := by decide +kernel
theorem dL_shifts_255 : decode cL_shifts 255 = .ok (.ifCond .ne 18, 3) := by decide +kernel
theorem dL_shifts_258 : decode cL_shifts 258 = .ok (.aload_n 3, 1) := by decide +kernel
theorem dL_shifts_259 : decode cL_shifts 259 = .ok (.iconst 0, 1) := by decide +kernel
theorem dL_shifts_260 : decode cL_shifts 260 = .ok (.iaload, 1) := by decide +kernel
theorem dL_shifts_261 : decode cL_shifts 261 = .ok (.iload_n 2, 1) := by decide +kernel
theorem dL_shifts_262 : decode cL_shifts 262 = .ok (.iconst 4, 1) := by decide +kernel
theorem dL_shifts_263 : decode cL_shifts 263 = .ok (.ishr, 1) := by decide +kernel
theorem dL_shifts_264 : decode cL_shifts 264 = .ok (.bipush 60, 2) := by decide +kernel
theorem dL_shifts_266 : decode cL_shifts 266 = .ok (.invokestatic 116, 3) := by decide +kernel
theorem dL_shifts_269 : decode cL_shifts 269 = .ok (.iadd, 1) := by decide +kernel
theorem dL_shifts_270 : decode cL_shifts 270 = .ok (.goto 12, 3) := by decide +kernel
theorem dL_shifts_273 : decode cL_shifts 273 = .ok (.iload_n 2, 1) := by decide +kernel
theorem dL_shifts_274 : decode cL_shifts 274 = .ok (.iconst 4, 1) := by decide +kernel
theorem dL_shifts_275 : decode cL_shifts 275 = .ok (.ishr, 1) := by decide +kernel
theorem dL_shifts_276 : decode cL_shifts 276 = .ok (.sipush 300, 3) := by decide +kernel
theorem dL_shifts_279 : decode cL_shifts 279 = .ok (.invokestatic 116, 3) := by decide +kernel
theorem dL_shifts_282 : decode cL_shifts 282 = .ok (.istore 12, 2) := by decide +kernel
theorem dL_shifts_284 : decode cL_shifts 284 = .ok (.iload_n 2, 1) := by decide +kernel
theorem dL_shifts_285 : decode cL_shifts 285 = .ok (.iconst 5, 1) := by decide +kernel
theorem dL_shifts_286 : decode cL_shifts 286 = .ok (.ishr, 1) := by decide +kernel
theorem dL_shifts_287 : decode cL_shifts 287 = .ok (.bipush 60, 2) := by decide +kernel
theorem dL_shifts_289 : decode cL_shifts 289 = .ok (.invokestatic 116, 3) := by decide +kernel
theorem dL_shifts_292 : decode cL_shifts 292 = .ok (.ifCond .ne 8, 3) := by decide +kernel
theorem dL_shifts_295 : decode cL_shifts 295 = .ok (.bipush 17, 2) := by decide +kernel
theorem dL_shifts_297 : decode cL_shifts 297 = .ok (.goto 13, 3) := by decide +kernel
theorem dL_shifts_300 : decode cL_shifts 300 = .ok (.iconst 1, 1) := by decide +kernel
theorem dL_shifts_301 : decode cL_shifts 301 = .ok (.iload_n 2, 1) := by decide +kernel
theorem dL_shifts_302 : decode cL_shifts 302 = .ok (.iconst 5, 1) := by decide +kernel
theorem dL_shifts_303 : decode cL_shifts 303 = .ok (.ishr, 1) := by decide +kernel
theorem dL_shifts_304 : decode cL_shifts 304 = .ok (.bipush 12, 2) := by decide +kernel
theorem dL_shifts_306 : decode cL_shifts 306 = .ok (.invokestatic 116, 3) := by decide +kernel
theorem dL_shifts_309 : decode cL_shifts 309 = .ok (.iadd, 1) := by decide +kernel
theorem dL_shifts_310 : decode cL_shifts 310 = .ok (.istore 13, 2) := by decide +kernel
theorem dL_shifts_312 : decode cL_shifts 312 = .ok (.iload_n 2, 1) := by decide +kernel
theorem dL_shifts_313 : decode cL_shifts 313 = .ok (.bipush 7, 2) := by decide +kernel
theorem dL_shifts_315 : decode cL_shifts 315 = .ok (.ishr, 1) := by decide +kernel
theorem dL_shifts_316 : decode cL_shifts 316 = .ok (.bipush 60, 2) := by decide +kernel
theorem dL_shifts_318 : decode cL_shifts 318 = .ok (.invokestatic 116, 3) := by decide +kernel
theorem dL_shifts_321 : decode cL_shifts 321 = .ok (.ifCond .ne 7, 3) := by decide +kernel
theorem dL_shifts_324 : decode cL_shifts 324 = .ok (.iconst 4, 1) := by decide +kernel
theorem dL_shifts_325 : decode cL_shifts 325 = .ok (.goto 11, 3) := by decide +kernel
theorem dL_shifts_328 : decode cL_shifts 328 = .ok (.iload_n 2, 1) := by decide +kernel
theorem dL_shifts_329 : decode cL_shifts 329 = .ok (.bipush 7, 2) := by decide +kernel
theorem dL_shifts_331 : decode cL_shifts 331 = .ok (.ishr, 1) := by decide +kernel
theorem dL_shifts_332 : decode cL_shifts 332 = .ok (.iconst 4, 1) := by decide +kernel
theorem dL_shifts_333 : decode cL_shifts 333 = .ok (.invokestatic 116, 3) := by decide +kernel
theorem dL_shifts_336 : decode cL_shifts 336 = .ok (.istore 14, 2) := by decide +kernel
theorem dL_shifts_338 : decode cL_shifts 338 = .ok (.iload 12, 2) := by decide +kernel
theorem dL_shifts_340 : decode cL_shifts 340 = .ok (.sipush 2001, 3) := by decide +kernel
theorem dL_shifts_343 : decode cL_shifts 343 = .ok (.if_icmp .ge 20, 3) := by decide +kernel
theorem dL_shifts_346 : decode cL_shifts 346 = .ok (.iload 13, 2) := by decide +kernel
theorem dL_shifts_348 : decode cL_shifts 348 = .ok (.bipush 17, 2) := by decide +kernel
theorem dL_shifts_350 : decode cL_shifts 350 = .ok (.if_icmp .ge 13, 3) := by decide +kernel
theorem dL_shifts_353 : decode cL_shifts 353 = .ok (.iload 14, 2) := by decide +kernel
theorem dL_shifts_355 : decode cL_shifts 355 = .ok (.iconst 4, 1) := by decide +kernel
theorem dL_shifts_356 : decode cL_shifts 356 = .ok (.if_icmp .ge 7, 3) := by decide +kernel
theorem dL_shifts_359 : decode cL_shifts 359 = .ok (.iconst 1, 1) := by decide +kernel
theorem dL_shifts_360 : decode cL_shifts 360 = .ok (.goto 4, 3) := by decide +kernel
theorem dL_shifts_363 : decode cL_shifts 363 = .ok (.iconst 0, 1) := by decide +kernel
theorem dL_shifts_364 : decode cL_shifts 364 = .ok (.istore 15, 2) := by decide +kernel
theorem dL_shifts_366 : decode cL_shifts 366 = .ok (.iload 15, 2) := by decide +kernel
theorem dL_shifts_368 : decode cL_shifts 368 = .ok (.ifCond .eq 13, 3) := by decide +kernel
theorem dL_shifts_371 : decode cL_shifts 371 = .ok (.aload_n 3, 1) := by decide +kernel
theorem dL_shifts_372 : decode cL_shifts 372 = .ok (.iconst 1, 1) := by decide +kernel
theorem dL_shifts_373 : decode cL_shifts 373 = .ok (.iaload, 1) := by decide +kernel
theorem dL_shifts_374 : decode cL_shifts 374 = .ok (.bipush 10, 2) := by decide +kernel
theorem dL_shifts_376 : decode cL_shifts 376 = .ok (.if_icmp .ne 5, 3) := by decide +kernel
theorem dL_shifts_379 : decode cL_shifts 379 = .ok (.iconst 1, 1) := by decide +kernel
theorem dL_shifts_380 : decode cL_shifts 380 = .ok (.ireturn, 1) := by decide +kernel
theorem dL_shifts_381 : decode cL_shifts 381 = .ok (.iload 15, 2) := by decide +kernel
theorem dL_shifts_383 : decode cL_shifts 383 = .ok (.ifCond .eq 78, 3) := by decide +kernel
theorem dL_shifts_386 : decode cL_shifts 386 = .ok (.aload 5, 2) := by decide +kernel
theorem dL_shifts_388 : decode cL_shifts 388 = .ok (.aload_n 3, 1) := by decide +kernel
theorem dL_shifts_389 : decode cL_shifts 389 = .ok (.iconst 1, 1) := by decide +kernel
theorem dL_shifts_390 : decode cL_shifts 390 = .ok (.iaload, 1) := by decide +kernel
theorem dL_shifts_391 : decode cL_shifts 391 = .ok (.iload 12, 2) := by decide +kernel
theorem dL_shifts_393 : decode cL_shifts 393 = .ok (.iastore, 1) := by decide +kernel
theorem dL_shifts_394 : decode cL_shifts 394 = .ok (.aload 5, 2) := by decide +kernel
theorem dL_shifts_396 : decode cL_shifts 396 = .ok (.bipush 10, 2) := by decide +kernel
theorem dL_shifts_398 : decode cL_shifts 398 = .ok (.aload_n 3, 1) := by decide +kernel
theorem dL_shifts_399 : decode cL_shifts 399 = .ok (.iconst 1, 1) := by decide +kernel
theorem dL_shifts_400 : decode cL_shifts 400 = .ok (.iaload, 1) := by decide +kernel
theorem dL_shifts_401 : decode cL_shifts 401 = .ok (.iadd, 1) := by decide +kernel
theorem dL_shifts_402 : decode cL_shifts 402 = .ok (.iload 12, 2) := by decide +kernel
theorem dL_shifts_404 : decode cL_shifts 404 = .ok (.iload 13, 2) := by decide +kernel
theorem dL_shifts_406 : decode cL_shifts 406 = .ok (.iadd, 1) := by decide +kernel
theorem dL_shifts_407 : decode cL_shifts 407 = .ok (.iastore, 1) := by decide +kernel
theorem dL_shifts_408 : decode cL_shifts 408 = .ok (.aload 5, 2) := by decide +kernel
theorem dL_shifts_410 : decode cL_shifts 410 = .ok (.bipush 20, 2) := by decide +kernel
theorem dL_shifts_412 : decode cL_shifts 412 = .ok (.aload_n 3, 1) := by decide +kernel
theorem dL_shifts_413 : decode cL_shifts 413 = .ok (.iconst 1, 1) := by decide +kernel
theorem dL_shifts_414 : decode cL_shifts 414 = .ok (.iaload, 1) := by decide +kernel
theorem dL_shifts_415 : decode cL_shifts 415 = .ok (.iadd, 1) := by decide +kernel
theorem dL_shifts_416 : decode cL_shifts 416 = .ok (.iload 14, 2) := by decide +kernel
theorem dL_shifts_418 : decode cL_shifts 418 = .ok (.iastore, 1) := by decide +kernel
theorem dL_shifts_419 : decode cL_shifts 419 = .ok (.aload 5, 2) := by decide +kernel
theorem dL_shifts_421 : decode cL_shifts 421 = .ok (.bipush 30, 2) := by decide +kernel
theorem dL_shifts_423 : decode cL_shifts 423 = .ok (.aload_n 3, 1) := by decide +kernel
theorem dL_shifts_424 : decode cL_shifts 424 = .ok (.iconst 1, 1) := by decide +kernel
theorem dL_shifts_425 : decode cL_shifts 425 = .ok (.iaload, 1) := by decide +kernel
theorem dL_shifts_426 : decode cL_shifts 426 = .ok (.iadd, 1) := by decide +kernel
theorem dL_shifts_427 : decode cL_shifts 427 = .ok (.iconst (-1), 1) := by decide +kernel
theorem dL_shifts_428 : decode cL_shifts 428 = .ok (.iastore, 1) := by decide +kernel
theorem dL_shifts_429 : decode cL_shifts 429 = .ok (.aload 5, 2) := by decide +kernel
theorem dL_shifts_431 : decode cL_shifts 431 = .ok (.bipush 40, 2) := by decide +kernel
theorem dL_shifts_433 : decode cL_shifts 433 = .ok (.aload_n 3, 1) := by decide +kernel
theorem dL_shifts_434 : decode cL_shifts 434 = .ok (.iconst 1, 1) := by decide +kernel
theorem dL_shifts_435 : decode cL_shifts 435 = .ok (.iaload, 1) := by decide +kernel
theorem dL_shifts_436 : decode cL_shifts 436 = .ok (.iadd, 1) := by decide +kernel
theorem dL_shifts_437 : decode cL_shifts 437 = .ok (.iload 12, 2) := by decide +kernel
theorem dL_shifts_439 : decode cL_shifts 439 = .ok (.iastore, 1) := by decide +kernel
theorem dL_shifts_440 : decode cL_shifts 440 = .ok (.aload 5, 2) := by decide +kernel
theorem dL_shifts_442 : decode cL_shifts 442 = .ok (.bipush 50, 2) := by decide +kernel
theorem dL_shifts_444 : decode cL_shifts 444 = .ok (.aload_n 3, 1) := by decide +kernel
theorem dL_shifts_445 : decode cL_shifts 445 = .ok (.iconst 1, 1) := by decide +kernel
theorem dL_shifts_446 : decode cL_shifts 446 = .ok (.iaload, 1) := by decide +kernel
theorem dL_shifts_447 : decode cL_shifts 447 = .ok (.iadd, 1) := by decide +kernel
theorem dL_shifts_448 : decode cL_shifts 448 = .ok (.iload 12, 2) := by decide +kernel
theorem dL_shifts_450 : decode cL_shifts 450 = .ok (.iload 13, 2) := by decide +kernel
theorem dL_shifts_452 : decode cL_shifts 452 = .ok (.iadd, 1) := by decide +kernel
theorem dL_shifts_453 : decode cL_shifts 453 = .ok (.iastore, 1) := by decide +kernel
theorem dL_shifts_454 : decode cL_shifts 454 = .ok (.aload_n 3, 1) := by decide +kernel
theorem dL_shifts_455 : decode cL_shifts 455 = .ok (.iconst 1, 1) := by decide +kernel
theorem dL_shifts_456 : decode cL_shifts 456 = .ok (.dup2, 1) := by decide +kernel
theorem dL_shifts_457 : decode cL_shifts 457 = .ok (.iaload, 1) := by decide +kernel
theorem dL_shifts_458 : decode cL_shifts 458 = .ok (.iconst 1, 1) := by decide +kernel
theorem dL_shifts_459 : decode cL_shifts 459 = .ok (.iadd, 1) := by decide +kernel
theorem dL_shifts_460 : decode cL_shifts 460 = .ok (.iastore, 1) := by decide +kernel
theorem dL_shifts_461 : decode cL_shifts 461 = .ok (.aload_n 0, 1) := by decide +kernel
theorem dL_shifts_462 : decode cL_shifts 462 = .ok (.iconst 1, 1) := by decide +kernel
theorem dL_shifts_463 : decode cL_shifts 463 = .ok (.iload 12, 2) := by decide +kernel
theorem dL_shifts_465 : decode cL_shifts 465 = .ok (.iload 13, 2) := by decide +kernel
theorem dL_shifts_467 : decode cL_shifts 467 = .ok (.iload 14, 2) := by decide +kernel
theorem dL_shifts_469 : decode cL_shifts 469 = .ok (.invokestatic 140, 3) := by decide +kernel
theorem dL_shifts_472 : decode cL_shifts 472 = .ok (.iload 15, 2) := by decide +kernel
theorem dL_shifts_474 : decode cL_shifts 474 = .ok (.ifCond .eq 11, 3) := by decide +kernel
theorem dL_shifts_477 : decode cL_shifts 477 = .ok (.aload_n 3, 1) := by decide +kernel
theorem dL_shifts_478 : decode cL_shifts 478 = .ok (.iconst 1, 1) := by decide +kernel
theorem dL_shifts_479 : decode cL_shifts 479 = .ok (.iaload, 1) := by decide +kernel
theorem dL_shifts_480 : decode cL_shifts 480 = .ok (.iconst 1, 1) := by decide +kernel
theorem dL_shifts_481 : decode cL_shifts 481 = .ok (.isub, 1) := by decide +kernel
theorem dL_shifts_482 : decode cL_shifts 482 = .ok (.goto 6, 3) := by decide +kernel
theorem dL_shifts_485 : decode cL_shifts 485 = .ok (.sipush (-1002), 3) := by decide +kernel
theorem dL_shifts_488 : decode cL_shifts 488 = .ok (.if_icmp .ne 7, 3) := by decide +kernel
theorem dL_shifts_491 : decode cL_shifts 491 = .ok (.iconst 1, 1) := by decide +kernel
theorem dL_shifts_492 : decode cL_shifts 492 = .ok (.goto 4, 3) := by decide +kernel
theorem dL_shifts_495 : decode cL_shifts 495 = .ok (.iconst 0, 1) := by decide +kernel
theorem dL_shifts_496 : decode cL_shifts 496 = .ok (.ireturn, 1) := by decide +kernel
theorem dL_shifts_497 : decode cL_shifts 497 = .ok (.iload_n 1, 1) := by decide +kernel
theorem dL_shifts_498 : decode cL_shifts 498 = .ok (.iconst 2, 1) := by decide +kernel
theorem dL_shifts_499 : decode cL_shifts 499 = .ok (.if_icmp .ne 149, 3) := by decide +kernel
theorem dL_shifts_502 : decode cL_shifts 502 = .ok (.iload_n 2, 1) := by decide +kernel
theorem dL_shifts_503 : decode cL_shifts 503 = .ok (.iconst 4, 1) := by decide +kernel
theorem dL_shifts_504 : decode cL_shifts 504 = .ok (.ishr, 1) := by decide +kernel
theorem dL_shifts_505 : decode cL_shifts 505 = .ok (.bipush 60, 2) := by decide +kernel
theorem dL_shifts_507 : decode cL_shifts 507 = .ok (.invokestatic 116, 3) := by decide +kernel
theorem dL_shifts_510 : decode cL_shifts 510 = .ok (.ifCond .ne 8, 3) := by decide +kernel
theorem dL_shifts_513 : decode cL_shifts 513 = .ok (.bipush 8, 2) := by decide +kernel
theorem dL_shifts_515 : decode cL_shifts 515 = .ok (.goto 25, 3) := by decide +kernel
theorem dL_shifts_518 : decode cL_shifts 518 = .ok (.iload_n 2, 1) := by decide +kernel
theorem dL_shifts_519 : decode cL_shifts 519 = .ok (.iconst 4, 1) := by decide +kernel
theorem dL_shifts_520 : decode cL_shifts 520 = .ok (.ishr, 1) := by decide +kernel
theorem dL_shifts_521 : decode cL_shifts 521 = .ok (.bipush 6, 2) := by decide +kernel
theorem dL_shifts_523 : decode cL_shifts 523 = .ok (.invokestatic 116, 3) := by decide +kernel
theorem dL_shifts_526 : decode cL_shifts 526 = .ok (.ifCond .ne 7, 3) := by decide +kernel
theorem dL_shifts_529 : decode cL_shifts 529 = .ok (.iconst (-1), 1) := by decide +kernel
theorem dL_shifts_530 : decode cL_shifts 530 = .ok (.goto 10, 3) := by decide +kernel
theorem dL_shifts_533 : decode cL_shifts 533 = .ok (.iload_n 2, 1) := by decide +kernel
theorem dL_shifts_534 : decode cL_shifts 534 = .ok (.iconst 3, 1) := by decide +kernel
theorem dL_shifts_535 : decode cL_shifts 535 = .ok (.ishr, 1) := by decide +kernel
theorem dL_shifts_536 : decode cL_shifts 536 = .ok (.iconst 3, 1) := by decide +kernel
theorem dL_shifts_537 : decode cL_shifts 537 = .ok (.invokestatic 116, 3) := by decide +kernel
theorem dL_shifts_540 : decode cL_shifts 540 = .ok (.istore 12, 2) := by decide +kernel
theorem dL_shifts_542 : decode cL_shifts 542 = .ok (.iload 11, 2) := by decide +kernel
theorem dL_shifts_544 : decode cL_shifts 544 = .ok (.ifCond .eq 10, 3) := by decide +kernel
theorem dL_shifts_547 : decode cL_shifts 547 = .ok (.iload 12, 2) := by decide +kernel
theorem dL_shifts_549 : decode cL_shifts 549 = .ok (.bipush 7, 2) := by decide +kernel
theorem dL_shifts_551 : decode cL_shifts 551 = .ok (.if_icmp .le 9, 3) := by decide +kernel
theorem dL_shifts_554 : decode cL_shifts 554 = .ok (.sipush (-1001), 3) := by decide +kernel
theorem dL_shifts_557 : decode cL_shifts 557 = .ok (.goto 38, 3) := by decide +kernel
theorem dL_shifts_560 : decode cL_shifts 560 = .ok (.iload 12, 2) := by decide +kernel
theorem dL_shifts_562 : decode cL_shifts 562 = .ok (.ifCond .lt 25, 3) := by decide +kernel
theorem dL_shifts_565 : decode cL_shifts 565 = .ok (.aload_n 3, 1) := by decide +kernel
theorem dL_shifts_566 : decode cL_shifts 566 = .ok (.aload 4, 2) := by decide +kernel
theorem dL_shifts_568 : decode cL_shifts 568 = .ok (.aload 5, 2) := by decide +kernel
theorem dL_shifts_570 : decode cL_shifts 570 = .ok (.iload 12, 2) := by decide +kernel
theorem dL_shifts_572 : decode cL_shifts 572 = .ok (.iload 10, 2) := by decide +kernel
theorem dL_shifts_574 : decode cL_shifts 574 = .ok (.iconst (-1), 1) := by decide +kernel
theorem dL_shifts_575 : decode cL_shifts 575 = .ok (.invokestatic 143, 3) := by decide +kernel
theorem dL_shifts_578 : decode cL_shifts 578 = .ok (.ifCond .ne 9, 3) := by decide +kernel
theorem dL_shifts_581 : decode cL_shifts 581 = .ok (.sipush (-1003), 3) := by decide +kernel
theorem dL_shifts_584 : decode cL_shifts 584 = .ok (.goto 11, 3) := by decide +kernel
theorem dL_shifts_587 : decode cL_shifts 587 = .ok (.aload 5, 2) := by decide +kernel
theorem dL_shifts_589 : decode cL_shifts 589 = .ok (.bipush 30, 2) := by decide +kernel
theorem dL_shifts_591 : decode cL_shifts 591 = .ok (.iload 10, 2) := by decide +kernel
theorem dL_shifts_593 : decode cL_shifts 593 = .ok (.iadd, 1) := by decide +kernel
theorem dL_shifts_594 : decode cL_shifts 594 = .ok (.iaload, 1) := by decide +kernel
theorem dL_shifts_595 : decode cL_shifts 595 = .ok (.istore 13, 2) := by decide +kernel
theorem dL_shifts_597 : decode cL_shifts 597 = .ok (.iload 13, 2) := by decide +kernel
theorem dL_shifts_599 : decode cL_shifts 599 = .ok (.iconst (-1), 1) := by decide +kernel
theorem dL_shifts_600 : decode cL_shifts 600 = .ok (.if_icmp .lt 28, 3) := by decide +kernel
theorem dL_shifts_603 : decode cL_shifts 603 = .ok (.aload_n 3, 1) := by decide +kernel
theorem dL_shifts_604 : decode cL_shifts 604 = .ok (.aload 5, 2) := by decide +kernel
theorem dL_shifts_606 : decode cL_shifts 606 = .ok (.aload 9, 2) := by decide +kernel
theorem dL_shifts_608 : decode cL_shifts 608 = .ok (.iload 10, 2) := by decide +kernel
theorem dL_shifts_610 : decode cL_shifts 610 = .ok (.iload 12, 2) := by decide +kernel
theorem dL_shifts_612 : decode cL_shifts 612 = .ok (.invokestatic 147, 3) := by decide +kernel
theorem dL_shifts_615 : decode cL_shifts 615 = .ok (.aload_n 3, 1) := by decide +kernel
theorem dL_shifts_616 : decode cL_shifts 616 = .ok (.aload 5, 2) := by decide +kernel
theorem dL_shifts_618 : decode cL_shifts 618 = .ok (.aload 6, 2) := by decide +kernel
theorem dL_shifts_620 : decode cL_shifts 620 = .ok (.aload 7, 2) := by decide +kernel
theorem dL_shifts_622 : decode cL_shifts 622 = .ok (.aload 8, 2) := by decide +kernel
theorem dL_shifts_624 : decode cL_shifts 624 = .ok (.invokestatic 136, 3) := by decide +kernel
theorem dL_shifts_627 : decode cL_shifts 627 = .ok (.pop, 1) := by decide +kernel
theorem dL_shifts_628 : decode cL_shifts 628 = .ok (.aload_n 0, 1) := by decide +kernel
theorem dL_shifts_629 : decode cL_shifts 629 = .ok (.iconst 0, 1) := by decide +kernel
theorem dL_shifts_630 : decode cL_shifts 630 = .ok (.iload 10, 2) := by decide +kernel
theorem dL_shifts_632 : decode cL_shifts 632 = .ok (.iload 12, 2) := by decide +kernel
theorem dL_shifts_634 : decode cL_shifts 634 = .ok (.invokestatic 151, 3) := by decide +kernel
theorem dL_shifts_637 : decode cL_shifts 637 = .ok (.iload 13, 2) := by decide +kernel
theorem dL_shifts_639 : decode cL_shifts 639 = .ok (.if_icmp .ne 7, 3) := by decide +kernel
theorem dL_shifts_642 : decode cL_shifts 642 = .ok (.iconst 1, 1) := by decide +kernel
theorem dL_shifts_643 : decode cL_shifts 643 = .ok (.goto 4, 3) := by decide +kernel
theorem dL_shifts_646 : decode cL_shifts 646 = .ok (.iconst 0, 1) := by decide +kernel
theorem dL_shifts_647 : decode cL_shifts 647 = .ok (.ireturn, 1) := by decide +kernel
theorem dL_shifts_648 : decode cL_shifts 648 = .ok (.iload_n 1, 1) := by decide +kernel
theorem dL_shifts_649 : decode cL_shifts 649 = .ok (.iconst 3, 1) := by decide +kernel
theorem dL_shifts_650 : decode cL_shifts 650 = .ok (.if_icmp .ne 244, 3) := by decide +kernel
theorem dL_shifts_653 : decode cL_shifts 653 = .ok (.iload 11, 2) := by decide +kernel
theorem dL_shifts_655 : decode cL_shifts 655 = .ok (.ifCond .eq 22, 3) := by decide +kernel
theorem dL_shifts_658 : decode cL_shifts 658 = .ok (.aload 5, 2) := by decide +kernel
theorem dL_shifts_660 : decode cL_shifts 660 = .ok (.iload 10, 2) := by decide +kernel
theorem dL_shifts_662 : decode cL_shifts 662 = .ok (.iaload, 1) := by decide +kernel
theorem dL_shifts_663 : decode cL_shifts 663 = .ok (.iload_n 2, 1) := by decide +kernel
theorem dL_shifts_664 : decode cL_shifts 664 = .ok (.iconst 3, 1) := by decide +kernel
theorem dL_shifts_665 : decode cL_shifts 665 = .ok (.ishr, 1) := by decide +kernel
theorem dL_shifts_666 : decode cL_shifts 666 = .ok (.bipush 9, 2) := by decide +kernel
theorem dL_shifts_668 : decode cL_shifts 668 = .ok (.invokestatic 116, 3) := by decide +kernel
theorem dL_shifts_671 : decode cL_shifts 671 = .ok (.iadd, 1) := by decide +kernel
theorem dL_shifts_672 : decode cL_shifts 672 = .ok (.iconst 4, 1) := by decide +kernel
theorem dL_shifts_673 : decode cL_shifts 673 = .ok (.isub, 1) := by decide +kernel
theorem dL_shifts_674 : decode cL_shifts 674 = .ok (.goto 11, 3) := by decide +kernel
theorem dL_shifts_677 : decode cL_shifts 677 = .ok (.iload_n 2, 1) := by decide +kernel
theorem dL_shifts_678 : decode cL_shifts 678 = .ok (.iconst 3, 1) := by decide +kernel
theorem dL_shifts_679 : decode cL_shifts 679 = .ok (.ishr, 1) := by decide +kernel
theorem dL_shifts_680 : decode cL_shifts 680 = .ok (.bipush 50, 2) := by decide +kernel
theorem dL_shifts_682 : decode cL_shifts 682 = .ok (.invokestatic 116, 3) := by decide +kernel
theorem dL_shifts_685 : decode cL_shifts 685 = .ok (.istore 12, 2) := by decide +kernel
theorem dL_shifts_687 : decode cL_shifts 687 = .ok (.iload 12, 2) := by decide +kernel
theorem dL_shifts_689 : decode cL_shifts 689 = .ok (.iload_n 2, 1) := by decide +kernel
theorem dL_shifts_690 : decode cL_shifts 690 = .ok (.iconst 5, 1) := by decide +kernel
theorem dL_shifts_691 : decode cL_shifts 691 = .ok (.ishr, 1) := by decide +kernel
theorem dL_shifts_692 : decode cL_shifts 692 = .ok (.bipush 20, 2) := by decide +kernel
theorem dL_shifts_694 : decode cL_shifts 694 = .ok (.invokestatic 116, 3) := by decide +kernel
theorem dL_shifts_697 : decode cL_shifts 697 = .ok (.ifCond .ne 8, 3) := by decide +kernel
theorem dL_shifts_700 : decode cL_shifts 700 = .ok (.bipush 25, 2) := by decide +kernel
theorem dL_shifts_702 : decode cL_shifts 702 = .ok (.goto 11, 3) := by decide +kernel
theorem dL_shifts_705 : decode cL_shifts 705 = .ok (.iload_n 2, 1) := by decide +kernel
theorem dL_shifts_706 : decode cL_shifts 706 = .ok (.iconst 5, 1) := by decide +kernel
theorem dL_shifts_707 : decode cL_shifts 707 = .ok (.ishr, 1) := by decide +kernel
theorem dL_shifts_708 : decode cL_shifts 708 = .ok (.bipush 15, 2) := by decide +kernel
theorem dL_shifts_710 : decode cL_shifts 710 = .ok (.invokestatic 116, 3) := by decide +kernel
theorem dL_shifts_713 : decode cL_shifts 713 = .ok (.iadd, 1) := by decide +kernel
theorem dL_shifts_714 : decode cL_shifts 714 = .ok (.istore 13, 2) := by decide +kernel
theorem dL_shifts_716 : decode cL_shifts 716 = .ok (.iload 12, 2) := by decide +kernel
theorem dL_shifts_718 : decode cL_shifts 718 = .ok (.ifCond .lt 32, 3) := by decide +kernel
theorem dL_shifts_721 : decode cL_shifts 721 = .ok (.iload 13, 2) := by decide +kernel
theorem dL_shifts_723 : decode cL_shifts 723 = .ok (.iload 12, 2) := by decide +kernel
theorem dL_shifts_725 : decode cL_shifts 725 = .ok (.if_icmp .le 25, 3) := by decide +kernel
theorem dL_shifts_728 : decode cL_shifts 728 = .ok (.iload 13, 2) := by decide +kernel
theorem dL_shifts_730 : decode cL_shifts 730 = .ok (.iload 12, 2) := by decide +kernel
theorem dL_shifts_732 : decode cL_shifts 732 = .ok (.isub, 1) := by decide +kernel
theorem dL_shifts_733 : decode cL_shifts 733 = .ok (.bipush 25, 2) := by decide +kernel
theorem dL_shifts_735 : decode cL_shifts 735 = .ok (.if_icmp .ge 15, 3) := by decide +kernel
theorem dL_shifts_738 : decode cL_shifts 738 = .ok (.iload 13, 2) := by decide +kernel
theorem dL_shifts_740 : decode cL_shifts 740 = .ok (.aload_n 3, 1) := by decide +kernel
theorem dL_shifts_741 : decode cL_shifts 741 = .ok (.iconst 0, 1) := by decide +kernel
theorem dL_shifts_742 : decode cL_shifts 742 = .ok (.iaload, 1) := by decide +kernel
theorem dL_shifts_743 : decode cL_shifts 743 = .ok (.if_icmp .gt 7, 3) := by decide +kernel
theorem dL_shifts_746 : decode cL_shifts 746 = .ok (.iconst 1, 1) := by decide +kernel
theorem dL_shifts_747 : decode cL_shifts 747 = .ok (.goto 4, 3) := by decide +kernel
theorem dL_shifts_750 : decode cL_shifts 750 = .ok (.iconst 0, 1) := by decide +kernel
theorem dL_shifts_751 : decode cL_shifts 751 = .ok (.istore 14, 2) := by decide +kernel
theorem dL_shifts_753 : decode cL_shifts 753 = .ok (.iload 11, 2) := by decide +kernel
theorem dL_shifts_755 : decode cL_shifts 755 = .ok (.ifCond .ne 9, 3) := by decide +kernel
theorem dL_shifts_758 : decode cL_shifts 758 = .ok (.sipush (-1001), 3) := by decide +kernel
theorem dL_shifts_761 : decode cL_shifts 761 = .ok (.goto 68, 3) := by decide +kernel
theorem dL_shifts_764 : decode cL_shifts 764 = .ok (.iload 14, 2) := by decide +kernel
theorem dL_shifts_766 : decode cL_shifts 766 = .ok (.ifCond .ne 9, 3) := by decide +kernel
theorem dL_shifts_769 : decode cL_shifts 769 = .ok (.sipush (-1002), 3) := by decide +kernel
theorem dL_shifts_772 : decode cL_shifts 772 = .ok (.goto 57, 3) := by decide +kernel
theorem dL_shifts_775 : decode cL_shifts 775 = .ok (.aload 5, 2) := by decide +kernel
theorem dL_shifts_777 : decode cL_shifts 777 = .ok (.bipush 30, 2) := by decide +kernel
theorem dL_shifts_779 : decode cL_shifts 779 = .ok (.iload 10, 2) := by decide +kernel
theorem dL_shifts_781 : decode cL_shifts 781 = .ok (.iadd, 1) := by decide +kernel
theorem dL_shifts_782 : decode cL_shifts 782 = .ok (.iaload, 1) := by decide +kernel
theorem dL_shifts_783 : decode cL_shifts 783 = .ok (.ifCond .lt 20, 3) := by decide +kernel
theorem dL_shifts_786 : decode cL_shifts 786 = .ok (.aload_n 3, 1) := by decide +kernel
theorem dL_shifts_787 : decode cL_shifts 787 = .ok (.iconst 0, 1) := by decide +kernel
theorem dL_shifts_788 : decode cL_shifts 788 = .ok (.iaload, 1) := by decide +kernel
theorem dL_shifts_789 : decode cL_shifts 789 = .ok (.aload 5, 2) := by decide +kernel
theorem dL_shifts_791 : decode cL_shifts 791 = .ok (.bipush 10, 2) := by decide +kernel
theorem dL_shifts_793 : decode cL_shifts 793 = .ok (.iload 10, 2) := by decide +kernel
theorem dL_shifts_795 : decode cL_shifts 795 = .ok (.iadd, 1) := by decide +kernel
theorem dL_shifts_796 : decode cL_shifts 796 = .ok (.iaload, 1) := by decide +kernel
theorem dL_shifts_797 : decode cL_shifts 797 = .ok (.isub, 1) := by decide +kernel
theorem dL_shifts_798 : decode cL_shifts 798 = .ok (.bipush 100, 2) := by decide +kernel
theorem dL_shifts_800 : decode cL_shifts 800 = .ok (.if_icmp .le 9, 3) := by decide +kernel
theorem dL_shifts_803 : decode cL_shifts 803 = .ok (.sipush (-1003), 3) := by decide +kernel
theorem dL_shifts_806 : decode cL_shifts 806 = .ok (.goto 23, 3) := by decide +kernel
theorem dL_shifts_809 : decode cL_shifts 809 = .ok (.iload 13, 2) := by decide +kernel
theorem dL_shifts_811 : decode cL_shifts 811 = .ok (.iload 12, 2) := by decide +kernel
theorem dL_shifts_813 : decode cL_shifts 813 = .ok (.isub, 1) := by decide +kernel
theorem dL_shifts_814 : decode cL_shifts 814 = .ok (.aload 5, 2) := by decide +kernel
theorem dL_shifts_816 : decode cL_shifts 816 = .ok (.bipush 10, 2) := by decide +kernel
theorem dL_shifts_818 : decode cL_shifts 818 = .ok (.iload 10, 2) := by decide +kernel
theorem dL_shifts_820 : decode cL_shifts 820 = .ok (.iadd, 1) := by decide +kernel
theorem dL_shifts_821 : decode cL_shifts 821 = .ok (.iaload, 1) := by decide +kernel
theorem dL_shifts_822 : decode cL_shifts 822 = .ok (.isub, 1) := by decide +kernel
theorem dL_shifts_823 : decode cL_shifts 823 = .ok (.aload 5, 2) := by decide +kernel
theorem dL_shifts_825 : decode cL_shifts 825 = .ok (.iload 10, 2) := by decide +kernel
theorem dL_shifts_827 : decode cL_shifts 827 = .ok (.iaload, 1) := by decide +kernel
theorem dL_shifts_828 : decode cL_shifts 828 = .ok (.iadd, 1) := by decide +kernel
theorem dL_shifts_829 : decode cL_shifts 829 = .ok (.istore 15, 2) := by decide +kernel
theorem dL_shifts_831 : decode cL_shifts 831 = .ok (.iload 15, 2) := by decide +kernel
theorem dL_shifts_833 : decode cL_shifts 833 = .ok (.sipush (-1000), 3) := by decide +kernel
theorem dL_shifts_836 : decode cL_shifts 836 = .ok (.if_icmp .le 36, 3) := by decide +kernel
theorem dL_shifts_839 : decode cL_shifts 839 = .ok (.aload 5, 2) := by decide +kernel
theorem dL_shifts_841 : decode cL_shifts 841 = .ok (.bipush 40, 2) := by decide +kernel
theorem dL_shifts_843 : decode cL_shifts 843 = .ok (.iload 10, 2) := by decide +kernel
theorem dL_shifts_845 : decode cL_shifts 845 = .ok (.iadd, 1) := by decide +kernel
theorem dL_shifts_846 : decode cL_shifts 846 = .ok (.iload 12, 2) := by decide +kernel
theorem dL_shifts_848 : decode cL_shifts 848 = .ok (.iastore, 1) := by decide +kernel
theorem dL_shifts_849 : decode cL_shifts 849 = .ok (.aload 5, 2) := by decide +kernel
theorem dL_shifts_851 : decode cL_shifts 851 = .ok (.bipush 50, 2) := by decide +kernel
theorem dL_shifts_853 : decode cL_shifts 853 = .ok (.iload 10, 2) := by decide +kernel
theorem dL_shifts_855 : decode cL_shifts 855 = .ok (.iadd, 1) := by decide +kernel
theorem dL_shifts_856 : decode cL_shifts 856 = .ok (.iload 13, 2) := by decide +kernel
theorem dL_shifts_858 : decode cL_shifts 858 = .ok (.iastore, 1) := by decide +kernel
theorem dL_shifts_859 : decode cL_shifts 859 = .ok (.aload_n 3, 1) := by decide +kernel
theorem dL_shifts_860 : decode cL_shifts 860 = .ok (.aload 5, 2) := by decide +kernel
theorem dL_shifts_862 : decode cL_shifts 862 = .ok (.aload 6, 2) := by decide +kernel
theorem dL_shifts_864 : decode cL_shifts 864 = .ok (.aload 7, 2) := by decide +kernel
theorem dL_shifts_866 : decode cL_shifts 866 = .ok (.aload 8, 2) := by decide +kernel
theorem dL_shifts_868 : decode cL_shifts 868 = .ok (.invokestatic 136, 3) := by decide +kernel
theorem dL_shifts_871 : decode cL_shifts 871 = .ok (.pop, 1) := by decide +kernel
theorem dL_shifts_872 : decode cL_shifts 872 = .ok (.aload_n 0, 1) := by decide +kernel
theorem dL_shifts_873 : decode cL_shifts 873 = .ok (.iconst 2, 1) := by decide +kernel
theorem dL_shifts_874 : decode cL_shifts 874 = .ok (.iload 10, 2) := by decide +kernel
theorem dL_shifts_876 : decode cL_shifts 876 = .ok (.iload 12, 2) := by decide +kernel
theorem dL_shifts_878 : decode cL_shifts 878 = .ok (.iload 13, 2) := by decide +kernel
theorem dL_shifts_880 : decode cL_shifts 880 = .ok (.invokestatic 140, 3) := by decide +kernel
theorem dL_shifts_883 : decode cL_shifts 883 = .ok (.iload 15, 2) := by decide +kernel
theorem dL_shifts_885 : decode cL_shifts 885 = .ok (.if_icmp .ne 7, 3) := by decide +kernel
theorem dL_shifts_888 : decode cL_shifts 888 = .ok (.iconst 1, 1) := by decide +kernel
theorem dL_shifts_889 : decode cL_shifts 889 = .ok (.goto 4, 3) := by decide +kernel
theorem dL_shifts_892 : decode cL_shifts 892 = .ok (.iconst 0, 1) := by decide +kernel
theorem dL_shifts_893 : decode cL_shifts 893 = .ok (.ireturn, 1) := by decide +kernel
theorem dL_shifts_894 : decode cL_shifts 894 = .ok (.iload_n 2, 1) := by decide +kernel
theorem dL_shifts_895 : decode cL_shifts 895 = .ok (.bipush 30, 2) := by decide +kernel
theorem dL_shifts_897 : decode cL_shifts 897 = .ok (.invokestatic 116, 3) := by decide +kernel
theorem dL_shifts_900 : decode cL_shifts 900 = .ok (.ifCond .ne 17, 3) := by decide +kernel
theorem dL_shifts_903 : decode cL_shifts 903 = .ok (.sipush 201, 3) := by decide +kernel
theorem dL_shifts_906 : decode cL_shifts 906 = .ok (.iload_n 2, 1) := by decide +kernel
theorem dL_shifts_907 : decode cL_shifts 907 = .ok (.iconst 3, 1) := by decide +kernel
theorem dL_shifts_908 : decode cL_shifts 908 = .ok (.ishr, 1) := by decide +kernel
theorem dL_shifts_909 : decode cL_shifts 909 = .ok (.iconst 2, 1) := by decide +kernel
theorem dL_shifts_910 : decode cL_shifts 910 = .ok (.invokestatic 116, 3) := by decide +kernel
theorem dL_shifts_913 : decode cL_shifts 913 = .ok (.imul, 1) := by decide +kernel
theorem dL_shifts_914 : decode cL_shifts 914 = .ok (.goto 26, 3) := by decide +kernel
theorem dL_shifts_917 : decode cL_shifts 917 = .ok (.iconst 1, 1) := by decide +kernel
theorem dL_shifts_918 : decode cL_shifts 918 = .ok (.iload_n 2, 1) := by decide +kernel
theorem dL_shifts_919 : decode cL_shifts 919 = .ok (.iload_n 2, 1) := by decide +kernel
theorem dL_shifts_920 : decode cL_shifts 920 = .ok (.iconst 4, 1) := by decide +kernel
theorem dL_shifts_921 : decode cL_shifts 921 = .ok (.ishr, 1) := by decide +kernel
theorem dL_shifts_922 : decode cL_shifts 922 = .ok (.iconst 3, 1) := by decide +kernel
theorem dL_shifts_923 : decode cL_shifts 923 = .ok (.invokestatic 116, 3) := by decide +kernel
theorem dL_shifts_926 : decode cL_shifts 926 = .ok (.ifCond .ne 8, 3) := by decide +kernel
theorem dL_shifts_929 : decode cL_shifts 929 = .ok (.bipush 60, 2) := by decide +kernel
theorem dL_shifts_931 : decode cL_shifts 931 = .ok (.goto 5, 3) := by decide +kernel
theorem dL_shifts_934 : decode cL_shifts 934 = .ok (.bipush 12, 2) := by decide +kernel
theorem dL_shifts_936 : decode cL_shifts 936 = .ok (.invokestatic 116, 3) := by decide +kernel
theorem dL_shifts_939 : decode cL_shifts 939 = .ok (.iadd, 1) := by decide +kernel
theorem dL_shifts_940 : decode cL_shifts 940 = .ok (.istore 12, 2) := by decide +kernel
theorem dL_shifts_942 : decode cL_shifts 942 = .ok (.iload 12, 2) := by decide +kernel
theorem dL_shifts_944 : decode cL_shifts 944 = .ok (.ifCond .le 15, 3) := by decide +kernel
theorem dL_shifts_947 : decode cL_shifts 947 = .ok (.iload 12, 2) := by decide +kernel
theorem dL_shifts_949 : decode cL_shifts 949 = .ok (.sipush 201, 3) := by decide +kernel
theorem dL_shifts_952 : decode cL_shifts 952 = .ok (.if_icmp .ge 7, 3) := by decide +kernel
theorem dL_shifts_955 : decode cL_shifts 955 = .ok (.iconst 1, 1) := by decide +kernel
theorem dL_shifts_956 : decode cL_shifts 956 = .ok (.goto 4, 3) := by decide +kernel
theorem dL_shifts_959 : decode cL_shifts 959 = .ok (.iconst 0, 1) := by decide +kernel
theorem dL_shifts_960 : decode cL_shifts 960 = .ok (.istore 13, 2) := by decide +kernel
theorem dL_shifts_962 : decode cL_shifts 962 = .ok (.iload 13, 2) := by decide +kernel
theorem dL_shifts_964 : decode cL_shifts 964 = .ok (.ifCond .eq 33, 3) := by decide +kernel
theorem dL_shifts_967 : decode cL_shifts 967 = .ok (.aload_n 3, 1) := by decide +kernel
theorem dL_shifts_968 : decode cL_shifts 968 = .ok (.iconst 0, 1) := by decide +kernel
theorem dL_shifts_969 : decode cL_shifts 969 = .ok (.iaload, 1) := by decide +kernel
theorem dL_shifts_970 : decode cL_shifts 970 = .ok (.iload 12, 2) := by decide +kernel
theorem dL_shifts_972 : decode cL_shifts 972 = .ok (.iadd, 1) := by decide +kernel
theorem dL_shifts_973 : decode cL_shifts 973 = .ok (.sipush 2000, 3) := by decide +kernel
theorem dL_shifts_976 : decode cL_shifts 976 = .ok (.if_icmp .le 21, 3) := by decide +kernel
theorem dL_shifts_979 : decode cL_shifts 979 = .ok (.aload_n 0, 1) := by decide +kernel
theorem dL_shifts_980 : decode cL_shifts 980 = .ok (.iload 12, 2) := by decide +kernel
theorem dL_shifts_982 : decode cL_shifts 982 = .ok (.invokestatic 155, 3) := by decide +kernel
theorem dL_shifts_985 : decode cL_shifts 985 = .ok (.sipush (-1003), 3) := by decide +kernel
theorem dL_shifts_988 : decode cL_shifts 988 = .ok (.if_icmp .ne 7, 3) := by decide +kernel
theorem dL_shifts_991 : decode cL_shifts 991 = .ok (.iconst 1, 1) := by decide +kernel
theorem dL_shifts_992 : decode cL_shifts 992 = .ok (.goto 4, 3) := by decide +kernel
theorem dL_shifts_995 : decode cL_shifts 995 = .ok (.iconst 0, 1) := by decide +kernel
theorem dL_shifts_996 : decode cL_shifts 996 = .ok (.ireturn, 1) := by decide +kernel
theorem dL_shifts_997 : decode cL_shifts 997 = .ok (.aload_n 3, 1) := by decide +kernel
theorem dL_shifts_998 : decode cL_shifts 998 = .ok (.iconst 0, 1) := by decide +kernel
theorem dL_shifts_999 : decode cL_shifts 999 = .ok (.dup2, 1) := by decide +kernel
theorem dL_shifts_1000 : decode cL_shifts 1000 = .ok (.iaload, 1) := by decide +kernel
theorem dL_shifts_1001 : decode cL_shifts 1001 = .ok (.iload 13, 2) := by decide +kernel
theorem dL_shifts_1003 : decode cL_shifts 1003 = .ok (.ifCond .eq 8, 3) := by decide +kernel
theorem dL_shifts_1006 : decode cL_shifts 1006 = .ok (.iload 12, 2) := by decide +kernel
theorem dL_shifts_1008 : decode cL_shifts 1008 = .ok (.goto 4, 3) := by decide +kernel
theorem dL_shifts_1011 : decode cL_shifts 1011 = .ok (.iconst 0, 1) := by decide +kernel
theorem dL_shifts_1012 : decode cL_shifts 1012 = .ok (.iadd, 1) := by decide +kernel
theorem dL_shifts_1013 : decode cL_shifts 1013 = .ok (.iastore, 1) := by decide +kernel
theorem dL_shifts_1014 : decode cL_shifts 1014 = .ok (.aload_n 0, 1) := by decide +kernel
theorem dL_shifts_1015 : decode cL_shifts 1015 = .ok (.iload 12, 2) := by decide +kernel
theorem dL_shifts_1017 : decode cL_shifts 1017 = .ok (.invokestatic 155, 3) := by decide +kernel
theorem dL_shifts_1020 : decode cL_shifts 1020 = .ok (.iload 13, 2) := by decide +kernel
theorem dL_shifts_1022 : decode cL_shifts 1022 = .ok (.ifCond .eq 9, 3) := by decide +kernel
theorem dL_shifts_1025 : decode cL_shifts 1025 = .ok (.aload_n 3, 1) := by decide +kernel
theorem dL_shifts_1026 : decode cL_shifts 1026 = .ok (.iconst 0, 1) := by decide +kernel
theorem dL_shifts_1027 : decode cL_shifts 1027 = .ok (.iaload, 1) := by decide +kernel
theorem dL_shifts_1028 : decode cL_shifts 1028 = .ok (.goto 6, 3) := by decide +kernel
theorem dL_shifts_1031 : decode cL_shifts 1031 = .ok (.sipush (-1002), 3) := by decide +kernel
theorem dL_shifts_1034 : decode cL_shifts 1034 = .ok (.if_icmp .ne 7, 3) := by decide +kernel
theorem dL_shifts_1037 : decode cL_shifts 1037 = .ok (.iconst 1, 1) := by decide +kernel
theorem dL_shifts_1038 : decode cL_shifts 1038 = .ok (.goto 4, 3) := by decide +kernel
theorem dL_shifts_1041 : decode cL_shifts 1041 = .ok (.iconst 0, 1) := by decide +kernel
theorem dL_shifts_1042 : decode cL_shifts 1042 = .ok (.ireturn, 1) := by decide +kernel
theorem dL_claims_0 : decode cL_claims 0 = .ok (.iload_n 1, 1) := by decide +kernel
theorem dL_claims_1 : decode cL_claims 1 = .ok (.ifCond .ne 107, 3) := by decide +kernel
theorem dL_claims_4 : decode cL_claims 4 = .ok (.iload_n 2, 1) := by decide +kernel
theorem dL_claims_5 : decode cL_claims 5 = .ok (.aload_n 3, 1) := by decide +kernel
theorem dL_claims_6 : decode cL_claims 6 = .ok (.iconst 2, 1) := by decide +kernel
theorem dL_claims_7 : decode cL_claims 7 = .ok (.iaload, 1) := by decide +kernel
theorem dL_claims_8 : decode cL_claims 8 = .ok (.iconst 1, 1) := by decide +kernel
theorem dL_claims_9 : decode cL_claims 9 = .ok (.iadd, 1) := by decide +kernel
theorem dL_claims_10 : decode cL_claims 10 = .ok (.invokestatic 116, 3) := by decide +kernel
theorem dL_claims_13 : decode cL_claims 13 = .ok (.istore 9, 2) := by decide +kernel
theorem dL_claims_15 : decode cL_claims 15 = .ok (.iload 9, 2) := by decide +kernel
theorem dL_claims_17 : decode cL_claims 17 = .ok (.aload_n 3, 1) := by decide +kernel
theorem dL_claims_18 : decode cL_claims 18 = .ok (.iconst 2, 1) := by decide +kernel
theorem dL_claims_19 : decode cL_claims 19 = .ok (.iaload, 1) := by decide +kernel
theorem dL_claims_20 : decode cL_claims 20 = .ok (.if_icmp .ge 7, 3) := by decide +kernel
theorem dL_claims_23 : decode cL_claims 23 = .ok (.iconst 1, 1) := by decide +kernel
theorem dL_claims_24 : decode cL_claims 24 = .ok (.goto 4, 3) := by decide +kernel
theorem dL_claims_27 : decode cL_claims 27 = .ok (.iconst 0, 1) := by decide +kernel
theorem dL_claims_28 : decode cL_claims 28 = .ok (.istore 10, 2) := by decide +kernel
theorem dL_claims_30 : decode cL_claims 30 = .ok (.iload 10, 2) := by decide +kernel
theorem dL_claims_32 : decode cL_claims 32 = .ok (.ifCond .ne 9, 3) := by decide +kernel
theorem dL_claims_35 : decode cL_claims 35 = .ok (.sipush (-1001), 3) := by decide +kernel
theorem dL_claims_38 : decode cL_claims 38 = .ok (.goto 22, 3) := by decide +kernel
theorem dL_claims_41 : decode cL_claims 41 = .ok (.aload 6, 2) := by decide +kernel
theorem dL_claims_43 : decode cL_claims 43 = .ok (.bipush 16, 2) := by decide +kernel
theorem dL_claims_45 : decode cL_claims 45 = .ok (.iload 9, 2) := by decide +kernel
theorem dL_claims_47 : decode cL_claims 47 = .ok (.iadd, 1) := by decide +kernel
theorem dL_claims_48 : decode cL_claims 48 = .ok (.iaload, 1) := by decide +kernel
theorem dL_claims_49 : decode cL_claims 49 = .ok (.iconst 1, 1) := by decide +kernel
theorem dL_claims_50 : decode cL_claims 50 = .ok (.if_icmp .ne 9, 3) := by decide +kernel
theorem dL_claims_53 : decode cL_claims 53 = .ok (.sipush (-1003), 3) := by decide +kernel
theorem dL_claims_56 : decode cL_claims 56 = .ok (.goto 4, 3) := by decide +kernel
theorem dL_claims_59 : decode cL_claims 59 = .ok (.iconst 0, 1) := by decide +kernel
theorem dL_claims_60 : decode cL_claims 60 = .ok (.istore 11, 2) := by decide +kernel
theorem dL_claims_62 : decode cL_claims 62 = .ok (.iload 11, 2) := by decide +kernel
theorem dL_claims_64 : decode cL_claims 64 = .ok (.ifCond .ne 26, 3) := by decide +kernel
theorem dL_claims_67 : decode cL_claims 67 = .ok (.aload 6, 2) := by decide +kernel
theorem dL_claims_69 : decode cL_claims 69 = .ok (.bipush 16, 2) := by decide +kernel
theorem dL_claims_71 : decode cL_claims 71 = .ok (.iload 9, 2) := by decide +kernel
theorem dL_claims_73 : decode cL_claims 73 = .ok (.iadd, 1) := by decide +kernel
theorem dL_claims_74 : decode cL_claims 74 = .ok (.iconst 1, 1) := by decide +kernel
theorem dL_claims_75 : decode cL_claims 75 = .ok (.iastore, 1) := by decide +kernel
theorem dL_claims_76 : decode cL_claims 76 = .ok (.aload_n 3, 1) := by decide +kernel
theorem dL_claims_77 : decode cL_claims 77 = .ok (.aload 5, 2) := by decide +kernel
theorem dL_claims_79 : decode cL_claims 79 = .ok (.aload 6, 2) := by decide +kernel
theorem dL_claims_81 : decode cL_claims 81 = .ok (.aload 7, 2) := by decide +kernel
theorem dL_claims_83 : decode cL_claims 83 = .ok (.aload 8, 2) := by decide +kernel
theorem dL_claims_85 : decode cL_claims 85 = .ok (.invokestatic 136, 3) := by decide +kernel
theorem dL_claims_88 : decode cL_claims 88 = .ok (.istore 11, 2) := by decide +kernel
theorem dL_claims_90 : decode cL_claims 90 = .ok (.aload_n 0, 1) := by decide +kernel
theorem dL_claims_91 : decode cL_claims 91 = .ok (.iconst 0, 1) := by decide +kernel
theorem dL_claims_92 : decode cL_claims 92 = .ok (.iload 9, 2) := by decide +kernel
theorem dL_claims_94 : decode cL_claims 94 = .ok (.invokestatic 158, 3) := by decide +kernel
theorem dL_claims_97 : decode cL_claims 97 = .ok (.iload 11, 2) := by decide +kernel
theorem dL_claims_99 : decode cL_claims 99 = .ok (.if_icmp .ne 7, 3) := by decide +kernel
theorem dL_claims_102 : decode cL_claims 102 = .ok (.iconst 1, 1) := by decide +kernel
theorem dL_claims_103 : decode cL_claims 103 = .ok (.goto 4, 3) := by decide +kernel
theorem dL_claims_106 : decode cL_claims 106 = .ok (.iconst 0, 1) := by decide +kernel
theorem dL_claims_107 : decode cL_claims 107 = .ok (.ireturn, 1) := by decide +kernel
theorem dL_claims_108 : decode cL_claims 108 = .ok (.iload_n 2, 1) := by decide +kernel
theorem dL_claims_109 : decode cL_claims 109 = .ok (.aload_n 3, 1) := by decide +kernel
theorem dL_claims_110 : decode cL_claims 110 = .ok (.iconst 3, 1) := by decide +kernel
theorem dL_claims_111 : decode cL_claims 111 = .ok (.iaload, 1) := by decide +kernel
theorem dL_claims_112 : decode cL_claims 112 = .ok (.iconst 1, 1) := by decide +kernel
theorem dL_claims_113 : decode cL_claims 113 = .ok (.iadd, 1) := by decide +kernel
theorem dL_claims_114 : decode cL_claims 114 = .ok (.invokestatic 116, 3) := by decide +kernel
theorem dL_claims_117 : decode cL_claims 117 = .ok (.iload_n 2, 1) := by decide +kernel
theorem dL_claims_118 : decode cL_claims 118 = .ok (.bipush 11, 2) := by decide +kernel
theorem dL_claims_120 : decode cL_claims 120 = .ok (.ishr, 1) := by decide +kernel
theorem dL_claims_121 : decode cL_claims 121 = .ok (.bipush 19, 2) := by decide +kernel
theorem dL_claims_123 : decode cL_claims 123 = .ok (.invokestatic 116, 3) := by decide +kernel
theorem dL_claims_126 : decode cL_claims 126 = .ok (.ifCond .ne 7, 3) := by decide +kernel
theorem dL_claims_129 : decode cL_claims 129 = .ok (.iconst 1, 1) := by decide +kernel
theorem dL_claims_130 : decode cL_claims 130 = .ok (.goto 4, 3) := by decide +kernel
theorem dL_claims_133 : decode cL_claims 133 = .ok (.iconst 0, 1) := by decide +kernel
theorem dL_claims_134 : decode cL_claims 134 = .ok (.isub, 1) := by decide +kernel
theorem dL_claims_135 : decode cL_claims 135 = .ok (.istore 9, 2) := by decide +kernel
theorem dL_claims_137 : decode cL_claims 137 = .ok (.iload 9, 2) := by decide +kernel
theorem dL_claims_139 : decode cL_claims 139 = .ok (.ifCond .lt 15, 3) := by decide +kernel
theorem dL_claims_142 : decode cL_claims 142 = .ok (.iload 9, 2) := by decide +kernel
theorem dL_claims_144 : decode cL_claims 144 = .ok (.aload_n 3, 1) := by decide +kernel
theorem dL_claims_145 : decode cL_claims 145 = .ok (.iconst 3, 1) := by decide +kernel
theorem dL_claims_146 : decode cL_claims 146 = .ok (.iaload, 1) := by decide +kernel
theorem dL_claims_147 : decode cL_claims 147 = .ok (.if_icmp .ge 7, 3) := by decide +kernel
theorem dL_claims_150 : decode cL_claims 150 = .ok (.iconst 1, 1) := by decide +kernel
theorem dL_claims_151 : decode cL_claims 151 = .ok (.goto 4, 3) := by decide +kernel
theorem dL_claims_154 : decode cL_claims 154 = .ok (.iconst 0, 1) := by decide +kernel
theorem dL_claims_155 : decode cL_claims 155 = .ok (.istore 10, 2) := by decide +kernel
theorem dL_claims_157 : decode cL_claims 157 = .ok (.iload 10, 2) := by decide +kernel
theorem dL_claims_159 : decode cL_claims 159 = .ok (.ifCond .eq 13, 3) := by decide +kernel
theorem dL_claims_162 : decode cL_claims 162 = .ok (.aload 8, 2) := by decide +kernel
theorem dL_claims_164 : decode cL_claims 164 = .ok (.iload 9, 2) := by decide +kernel
theorem dL_claims_166 : decode cL_claims 166 = .ok (.iaload, 1) := by decide +kernel
theorem dL_claims_167 : decode cL_claims 167 = .ok (.iconst 4, 1) := by decide +kernel
theorem dL_claims_168 : decode cL_claims 168 = .ok (.irem, 1) := by decide +kernel
theorem dL_claims_169 : decode cL_claims 169 = .ok (.goto 4, 3) := by decide +kernel
theorem dL_claims_172 : decode cL_claims 172 = .ok (.iconst 0, 1) := by decide +kernel
theorem dL_claims_173 : decode cL_claims 173 = .ok (.istore 11, 2) := by decide +kernel
theorem dL_claims_175 : decode cL_claims 175 = .ok (.iload_n 1, 1) := by decide +kernel
theorem dL_claims_176 : decode cL_claims 176 = .ok (.iconst 1, 1) := by decide +kernel
theorem dL_claims_177 : decode cL_claims 177 = .ok (.if_icmp .ne 75, 3) := by decide +kernel
theorem dL_claims_180 : decode cL_claims 180 = .ok (.iload 10, 2) := by decide +kernel
theorem dL_claims_182 : decode cL_claims 182 = .ok (.ifCond .ne 9, 3) := by decide +kernel
theorem dL_claims_185 : decode cL_claims 185 = .ok (.sipush (-1001), 3) := by decide +kernel
theorem dL_claims_188 : decode cL_claims 188 = .ok (.goto 28, 3) := by decide +kernel
theorem dL_claims_191 : decode cL_claims 191 = .ok (.iload 11, 2) := by decide +kernel
theorem dL_claims_193 : decode cL_claims 193 = .ok (.ifCond .eq 9, 3) := by decide +kernel
theorem dL_claims_196 : decode cL_claims 196 = .ok (.sipush (-1003), 3) := by decide +kernel
theorem dL_claims_199 : decode cL_claims 199 = .ok (.goto 17, 3) := by decide +kernel
theorem dL_claims_202 : decode cL_claims 202 = .ok (.aload 4, 2) := by decide +kernel
theorem dL_claims_204 : decode cL_claims 204 = .ok (.aload 5, 2) := by decide +kernel
theorem dL_claims_206 : decode cL_claims 206 = .ok (.aload 6, 2) := by decide +kernel
theorem dL_claims_208 : decode cL_claims 208 = .ok (.aload 7, 2) := by decide +kernel
theorem dL_claims_210 : decode cL_claims 210 = .ok (.iload 9, 2) := by decide +kernel
theorem dL_claims_212 : decode cL_claims 212 = .ok (.iaload, 1) := by decide +kernel
theorem dL_claims_213 : decode cL_claims 213 = .ok (.invokestatic 162, 3) := by decide +kernel
theorem dL_claims_216 : decode cL_claims 216 = .ok (.istore 12, 2) := by decide +kernel
theorem dL_claims_218 : decode cL_claims 218 = .ok (.iload 12, 2) := by decide +kernel
theorem dL_claims_220 : decode cL_claims 220 = .ok (.ifCond .lt 14, 3) := by decide +kernel
theorem dL_claims_223 : decode cL_claims 223 = .ok (.aload 8, 2) := by decide +kernel
theorem dL_claims_225 : decode cL_claims 225 = .ok (.iload 9, 2) := by decide +kernel
theorem dL_claims_227 : decode cL_claims 227 = .ok (.iconst 1, 1) := by decide +kernel
theorem dL_claims_228 : decode cL_claims 228 = .ok (.iconst 4, 1) := by decide +kernel
theorem dL_claims_229 : decode cL_claims 229 = .ok (.iload 12, 2) := by decide +kernel
theorem dL_claims_231 : decode cL_claims 231 = .ok (.imul, 1) := by decide +kernel
theorem dL_claims_232 : decode cL_claims 232 = .ok (.iadd, 1) := by decide +kernel
theorem dL_claims_233 : decode cL_claims 233 = .ok (.iastore, 1) := by decide +kernel
theorem dL_claims_234 : decode cL_claims 234 = .ok (.aload_n 0, 1) := by decide +kernel
theorem dL_claims_235 : decode cL_claims 235 = .ok (.iconst 1, 1) := by decide +kernel
theorem dL_claims_236 : decode cL_claims 236 = .ok (.iload 9, 2) := by decide +kernel
theorem dL_claims_238 : decode cL_claims 238 = .ok (.invokestatic 158, 3) := by decide +kernel
theorem dL_claims_241 : decode cL_claims 241 = .ok (.iload 12, 2) := by decide +kernel
theorem dL_claims_243 : decode cL_claims 243 = .ok (.if_icmp .ne 7, 3) := by decide +kernel
theorem dL_claims_246 : decode cL_claims 246 = .ok (.iconst 1, 1) := by decide +kernel
theorem dL_claims_247 : decode cL_claims 247 = .ok (.goto 4, 3) := by decide +kernel
theorem dL_claims_250 : decode cL_claims 250 = .ok (.iconst 0, 1) := by decide +kernel
theorem dL_claims_251 : decode cL_claims 251 = .ok (.ireturn, 1) := by decide +kernel
theorem dL_claims_252 : decode cL_claims 252 = .ok (.iload 10, 2) := by decide +kernel
theorem dL_claims_254 : decode cL_claims 254 = .ok (.ifCond .ne 9, 3) := by decide +kernel
theorem dL_claims_257 : decode cL_claims 257 = .ok (.sipush (-1001), 3) := by decide +kernel
theorem dL_claims_260 : decode cL_claims 260 = .ok (.goto 22, 3) := by decide +kernel
theorem dL_claims_263 : decode cL_claims 263 = .ok (.iload 11, 2) := by decide +kernel
theorem dL_claims_265 : decode cL_claims 265 = .ok (.iconst 3, 1) := by decide +kernel
theorem dL_claims_266 : decode cL_claims 266 = .ok (.if_icmp .eq 9, 3) := by decide +kernel
theorem dL_claims_269 : decode cL_claims 269 = .ok (.sipush (-1003), 3) := by decide +kernel
theorem dL_claims_272 : decode cL_claims 272 = .ok (.goto 10, 3) := by decide +kernel
theorem dL_claims_275 : decode cL_claims 275 = .ok (.aload 8, 2) := by decide +kernel
theorem dL_claims_277 : decode cL_claims 277 = .ok (.iload 9, 2) := by decide +kernel
theorem dL_claims_279 : decode cL_claims 279 = .ok (.iaload, 1) := by decide +kernel
theorem dL_claims_280 : decode cL_claims 280 = .ok (.iconst 4, 1) := by decide +kernel
theorem dL_claims_281 : decode cL_claims 281 = .ok (.idiv, 1) := by decide +kernel
theorem dL_claims_282 : decode cL_claims 282 = .ok (.istore 12, 2) := by decide +kernel
theorem dL_claims_284 : decode cL_claims 284 = .ok (.iload 12, 2) := by decide +kernel
theorem dL_claims_286 : decode cL_claims 286 = .ok (.ifCond .lt 9, 3) := by decide +kernel
theorem dL_claims_289 : decode cL_claims 289 = .ok (.aload 8, 2) := by decide +kernel
theorem dL_claims_291 : decode cL_claims 291 = .ok (.iload 9, 2) := by decide +kernel
theorem dL_claims_293 : decode cL_claims 293 = .ok (.iconst 2, 1) := by decide +kernel
theorem dL_claims_294 : decode cL_claims 294 = .ok (.iastore, 1) := by decide +kernel
theorem dL_claims_295 : decode cL_claims 295 = .ok (.aload_n 0, 1) := by decide +kernel
theorem dL_claims_296 : decode cL_claims 296 = .ok (.iconst 2, 1) := by decide +kernel
theorem dL_claims_297 : decode cL_claims 297 = .ok (.iload 9, 2) := by decide +kernel
theorem dL_claims_299 : decode cL_claims 299 = .ok (.invokestatic 158, 3) := by decide +kernel
theorem dL_claims_302 : decode cL_claims 302 = .ok (.iload 12, 2) := by decide +kernel
theorem dL_claims_304 : decode cL_claims 304 = .ok (.if_icmp .ne 7, 3) := by decide +kernel
theorem dL_claims_307 : decode cL_claims 307 = .ok (.iconst 1, 1) := by decide +kernel
theorem dL_claims_308 : decode cL_claims 308 = .ok (.goto 4, 3) := by decide +kernel
theorem dL_claims_311 : decode cL_claims 311 = .ok (.iconst 0, 1) := by decide +kernel
theorem dL_claims_312 : decode cL_claims 312 = .ok (.ireturn, 1) := by decide +kernel
theorem dL_offers_0 : decode cL_offers 0 = .ok (.iload_n 2, 1) := by decide +kernel
theorem dL_offers_1 : decode cL_offers 1 = .ok (.aload_n 3, 1) := by decide +kernel
theorem dL_offers_2 : decode cL_offers 2 = .ok (.iconst 4, 1) := by decide +kernel
theorem dL_offers_3 : decode cL_offers 3 = .ok (.iaload, 1) := by decide +kernel
theorem dL_offers_4 : decode cL_offers 4 = .ok (.iconst 1, 1) := by decide +kernel
theorem dL_offers_5 : decode cL_offers 5 = .ok (.iadd, 1) := by decide +kernel
theorem dL_offers_6 : decode cL_offers 6 = .ok (.invokestatic 116, 3) := by decide +kernel
theorem dL_offers_9 : decode cL_offers 9 = .ok (.iload_n 2, 1) := by decide +kernel
theorem dL_offers_10 : decode cL_offers 10 = .ok (.bipush 11, 2) := by decide +kernel
theorem dL_offers_12 : decode cL_offers 12 = .ok (.ishr, 1) := by decide +kernel
theorem dL_offers_13 : decode cL_offers 13 = .ok (.bipush 19, 2) := by decide +kernel
theorem dL_offers_15 : decode cL_offers 15 = .ok (.invokestatic 116, 3) := by decide +kernel
theorem dL_offers_18 : decode cL_offers 18 = .ok (.ifCond .ne 7, 3) := by decide +kernel
theorem dL_offers_21 : decode cL_offers 21 = .ok (.iconst 1, 1) := by decide +kernel
theorem dL_offers_22 : decode cL_offers 22 = .ok (.goto 4, 3) := by decide +kernel
theorem dL_offers_25 : decode cL_offers 25 = .ok (.iconst 0, 1) := by decide +kernel
theorem dL_offers_26 : decode cL_offers 26 = .ok (.isub, 1) := by decide +kernel
theorem dL_offers_27 : decode cL_offers 27 = .ok (.istore 10, 2) := by decide +kernel
theorem dL_offers_29 : decode cL_offers 29 = .ok (.iload 10, 2) := by decide +kernel
theorem dL_offers_31 : decode cL_offers 31 = .ok (.ifCond .lt 15, 3) := by decide +kernel
theorem dL_offers_34 : decode cL_offers 34 = .ok (.iload 10, 2) := by decide +kernel
theorem dL_offers_36 : decode cL_offers 36 = .ok (.aload_n 3, 1) := by decide +kernel
theorem dL_offers_37 : decode cL_offers 37 = .ok (.iconst 4, 1) := by decide +kernel
theorem dL_offers_38 : decode cL_offers 38 = .ok (.iaload, 1) := by decide +kernel
theorem dL_offers_39 : decode cL_offers 39 = .ok (.if_icmp .ge 7, 3) := by decide +kernel
theorem dL_offers_42 : decode cL_offers 42 = .ok (.iconst 1, 1) := by decide +kernel
theorem dL_offers_43 : decode cL_offers 43 = .ok (.goto 4, 3) := by decide +kernel
theorem dL_offers_46 : decode cL_offers 46 = .ok (.iconst 0, 1) := by decide +kernel
theorem dL_offers_47 : decode cL_offers 47 = .ok (.istore 11, 2) := by decide +kernel
theorem dL_offers_49 : decode cL_offers 49 = .ok (.iload_n 1, 1) := by decide +kernel
theorem dL_offers_50 : decode cL_offers 50 = .ok (.ifCond .ne 226, 3) := by decide +kernel
theorem dL_offers_53 : decode cL_offers 53 = .ok (.iload_n 2, 1) := by decide +kernel
theorem dL_offers_54 : decode cL_offers 54 = .ok (.aload_n 3, 1) := by decide +kernel
theorem dL_offers_55 : decode cL_offers 55 = .ok (.iconst 1, 1) := by decide +kernel
theorem dL_offers_56 : decode cL_offers 56 = .ok (.iaload, 1) := by decide +kernel
theorem dL_offers_57 : decode cL_offers 57 = .ok (.iconst 1, 1) := by decide +kernel
theorem dL_offers_58 : decode cL_offers 58 = .ok (.iadd, 1) := by decide +kernel
theorem dL_offers_59 : decode cL_offers 59 = .ok (.invokestatic 116, 3) := by decide +kernel
theorem dL_offers_62 : decode cL_offers 62 = .ok (.istore 12, 2) := by decide +kernel
theorem dL_offers_64 : decode cL_offers 64 = .ok (.iload_n 2, 1) := by decide +kernel
theorem dL_offers_65 : decode cL_offers 65 = .ok (.iconst 4, 1) := by decide +kernel
theorem dL_offers_66 : decode cL_offers 66 = .ok (.ishr, 1) := by decide +kernel
theorem dL_offers_67 : decode cL_offers 67 = .ok (.aload_n 3, 1) := by decide +kernel
theorem dL_offers_68 : decode cL_offers 68 = .ok (.iconst 1, 1) := by decide +kernel
theorem dL_offers_69 : decode cL_offers 69 = .ok (.iaload, 1) := by decide +kernel
theorem dL_offers_70 : decode cL_offers 70 = .ok (.iconst 1, 1) := by decide +kernel
theorem dL_offers_71 : decode cL_offers 71 = .ok (.iadd, 1) := by decide +kernel
theorem dL_offers_72 : decode cL_offers 72 = .ok (.invokestatic 116, 3) := by decide +kernel
theorem dL_offers_75 : decode cL_offers 75 = .ok (.istore 13, 2) := by decide +kernel
theorem dL_offers_77 : decode cL_offers 77 = .ok (.iload 12, 2) := by decide +kernel
theorem dL_offers_79 : decode cL_offers 79 = .ok (.aload_n 3, 1) := by decide +kernel
theorem dL_offers_80 : decode cL_offers 80 = .ok (.iconst 1, 1) := by decide +kernel
theorem dL_offers_81 : decode cL_offers 81 = .ok (.iaload, 1) := by decide +kernel
theorem dL_offers_82 : decode cL_offers 82 = .ok (.if_icmp .ge 15, 3) := by decide +kernel
theorem dL_offers_85 : decode cL_offers 85 = .ok (.iload 13, 2) := by decide +kernel
theorem dL_offers_87 : decode cL_offers 87 = .ok (.aload_n 3, 1) := by decide +kernel
theorem dL_offers_88 : decode cL_offers 88 = .ok (.iconst 1, 1) := by decide +kernel
theorem dL_offers_89 : decode cL_offers 89 = .ok (.iaload, 1) := by decide +kernel
theorem dL_offers_90 : decode cL_offers 90 = .ok (.if_icmp .ge 7, 3) := by decide +kernel
theorem dL_offers_93 : decode cL_offers 93 = .ok (.iconst 1, 1) := by decide +kernel
theorem dL_offers_94 : decode cL_offers 94 = .ok (.goto 4, 3) := by decide +kernel
theorem dL_offers_97 : decode cL_offers 97 = .ok (.iconst 0, 1) := by decide +kernel
theorem dL_offers_98 : decode cL_offers 98 = .ok (.istore 14, 2) := by decide +kernel
theorem dL_offers_100 : decode cL_offers 100 = .ok (.iload 14, 2) := by decide +kernel
theorem dL_offers_102 : decode cL_offers 102 = .ok (.ifCond .eq 70, 3) := by decide +kernel
theorem dL_offers_105 : decode cL_offers 105 = .ok (.aload 5, 2) := by decide +kernel
theorem dL_offers_107 : decode cL_offers 107 = .ok (.bipush 30, 2) := by decide +kernel
theorem dL_offers_109 : decode cL_offers 109 = .ok (.iload 12, 2) := by decide +kernel
theorem dL_offers_111 : decode cL_offers 111 = .ok (.iadd, 1) := by decide +kernel
theorem dL_offers_112 : decode cL_offers 112 = .ok (.iaload, 1) := by decide +kernel
theorem dL_offers_113 : decode cL_offers 113 = .ok (.ifCond .lt 59, 3) := by decide +kernel
theorem dL_offers_116 : decode cL_offers 116 = .ok (.aload 5, 2) := by decide +kernel
theorem dL_offers_118 : decode cL_offers 118 = .ok (.bipush 30, 2) := by decide +kernel
theorem dL_offers_120 : decode cL_offers 120 = .ok (.iload 13, 2) := by decide +kernel
theorem dL_offers_122 : decode cL_offers 122 = .ok (.iadd, 1) := by decide +kernel
theorem dL_offers_123 : decode cL_offers 123 = .ok (.iaload, 1) := by decide +kernel
theorem dL_offers_124 : decode cL_offers 124 = .ok (.ifCond .lt 48, 3) := by decide +kernel
theorem dL_offers_127 : decode cL_offers 127 = .ok (.aload 5, 2) := by decide +kernel
theorem dL_offers_129 : decode cL_offers 129 = .ok (.bipush 30, 2) := by decide +kernel
theorem dL_offers_131 : decode cL_offers 131 = .ok (.iload 12, 2) := by decide +kernel
theorem dL_offers_133 : decode cL_offers 133 = .ok (.iadd, 1) := by decide +kernel
theorem dL_offers_134 : decode cL_offers 134 = .ok (.iaload, 1) := by decide +kernel
theorem dL_offers_135 : decode cL_offers 135 = .ok (.aload 5, 2) := by decide +kernel
theorem dL_offers_137 : decode cL_offers 137 = .ok (.bipush 30, 2) := by decide +kernel
theorem dL_offers_139 : decode cL_offers 139 = .ok (.iload 13, 2) := by decide +kernel
theorem dL_offers_141 : decode cL_offers 141 = .ok (.iadd, 1) := by decide +kernel
theorem dL_offers_142 : decode cL_offers 142 = .ok (.iaload, 1) := by decide +kernel
theorem dL_offers_143 : decode cL_offers 143 = .ok (.if_icmp .eq 29, 3) := by decide +kernel
theorem dL_offers_146 : decode cL_offers 146 = .ok (.aload 5, 2) := by decide +kernel
theorem dL_offers_148 : decode cL_offers 148 = .ok (.iload 12, 2) := by decide +kernel
theorem dL_offers_150 : decode cL_offers 150 = .ok (.iaload, 1) := by decide +kernel
theorem dL_offers_151 : decode cL_offers 151 = .ok (.aload_n 3, 1) := by decide +kernel
theorem dL_offers_152 : decode cL_offers 152 = .ok (.iconst 0, 1) := by decide +kernel
theorem dL_offers_153 : decode cL_offers 153 = .ok (.iaload, 1) := by decide +kernel
theorem dL_offers_154 : decode cL_offers 154 = .ok (.if_icmp .le 18, 3) := by decide +kernel
theorem dL_offers_157 : decode cL_offers 157 = .ok (.aload 5, 2) := by decide +kernel
theorem dL_offers_159 : decode cL_offers 159 = .ok (.iload 13, 2) := by decide +kernel
theorem dL_offers_161 : decode cL_offers 161 = .ok (.iaload, 1) := by decide +kernel
theorem dL_offers_162 : decode cL_offers 162 = .ok (.aload_n 3, 1) := by decide +kernel
theorem dL_offers_163 : decode cL_offers 163 = .ok (.iconst 0, 1) := by decide +kernel
theorem dL_offers_164 : decode cL_offers 164 = .ok (.iaload, 1) := by decide +kernel
theorem dL_offers_165 : decode cL_offers 165 = .ok (.if_icmp .le 7, 3) := by decide +kernel
theorem dL_offers_168 : decode cL_offers 168 = .ok (.iconst 1, 1) := by decide +kernel
theorem dL_offers_169 : decode cL_offers 169 = .ok (.goto 4, 3) := by decide +kernel
theorem dL_offers_172 : decode cL_offers 172 = .ok (.iconst 0, 1) := by decide +kernel
theorem dL_offers_173 : decode cL_offers 173 = .ok (.istore 15, 2) := by decide +kernel
theorem dL_offers_175 : decode cL_offers 175 = .ok (.iload 15, 2) := by decide +kernel
theorem dL_offers_177 : decode cL_offers 177 = .ok (.ifCond .eq 13, 3) := by decide +kernel
theorem dL_offers_180 : decode cL_offers 180 = .ok (.aload_n 3, 1) := by decide +kernel
theorem dL_offers_181 : decode cL_offers 181 = .ok (.iconst 4, 1) := by decide +kernel
theorem dL_offers_182 : decode cL_offers 182 = .ok (.iaload, 1) := by decide +kernel
theorem dL_offers_183 : decode cL_offers 183 = .ok (.bipush 12, 2) := by decide +kernel
theorem dL_offers_185 : decode cL_offers 185 = .ok (.if_icmp .ne 5, 3) := by decide +kernel
theorem dL_offers_188 : decode cL_offers 188 = .ok (.iconst 1, 1) := by decide +kernel
theorem dL_offers_189 : decode cL_offers 189 = .ok (.ireturn, 1) := by decide +kernel
theorem dL_offers_190 : decode cL_offers 190 = .ok (.iload 15, 2) := by decide +kernel
theorem dL_offers_192 : decode cL_offers 192 = .ok (.ifCond .eq 39, 3) := by decide +kernel
theorem dL_offers_195 : decode cL_offers 195 = .ok (.aload 9, 2) := by decide +kernel
theorem dL_offers_197 : decode cL_offers 197 = .ok (.aload_n 3, 1) := by decide +kernel
theorem dL_offers_198 : decode cL_offers 198 = .ok (.iconst 4, 1) := by decide +kernel
theorem dL_offers_199 : decode cL_offers 199 = .ok (.iaload, 1) := by decide +kernel
theorem dL_offers_200 : decode cL_offers 200 = .ok (.iload 12, 2) := by decide +kernel
theorem dL_offers_202 : decode cL_offers 202 = .ok (.iastore, 1) := by decide +kernel
theorem dL_offers_203 : decode cL_offers 203 = .ok (.aload 9, 2) := by decide +kernel
theorem dL_offers_205 : decode cL_offers 205 = .ok (.bipush 12, 2) := by decide +kernel
theorem dL_offers_207 : decode cL_offers 207 = .ok (.aload_n 3, 1) := by decide +kernel
theorem dL_offers_208 : decode cL_offers 208 = .ok (.iconst 4, 1) := by decide +kernel
theorem dL_offers_209 : decode cL_offers 209 = .ok (.iaload, 1) := by decide +kernel
theorem dL_offers_210 : decode cL_offers 210 = .ok (.iadd, 1) := by decide +kernel
theorem dL_offers_211 : decode cL_offers 211 = .ok (.iload 13, 2) := by decide +kernel
theorem dL_offers_213 : decode cL_offers 213 = .ok (.iastore, 1) := by decide +kernel
theorem dL_offers_214 : decode cL_offers 214 = .ok (.aload 9, 2) := by decide +kernel
theorem dL_offers_216 : decode cL_offers 216 = .ok (.bipush 24, 2) := by decide +kernel
theorem dL_offers_218 : decode cL_offers 218 = .ok (.aload_n 3, 1) := by decide +kernel
theorem dL_offers_219 : decode cL_offers 219 = .ok (.iconst 4, 1) := by decide +kernel
theorem dL_offers_220 : decode cL_offers 220 = .ok (.iaload, 1) := by decide +kernel
theorem dL_offers_221 : decode cL_offers 221 = .ok (.iadd, 1) := by decide +kernel
theorem dL_offers_222 : decode cL_offers 222 = .ok (.iconst 1, 1) := by decide +kernel
theorem dL_offers_223 : decode cL_offers 223 = .ok (.iastore, 1) := by decide +kernel
theorem dL_offers_224 : decode cL_offers 224 = .ok (.aload_n 3, 1) := by decide +kernel
theorem dL_offers_225 : decode cL_offers 225 = .ok (.iconst 4, 1) := by decide +kernel
theorem dL_offers_226 : decode cL_offers 226 = .ok (.dup2, 1) := by decide +kernel
theorem dL_offers_227 : decode cL_offers 227 = .ok (.iaload, 1) := by decide +kernel
theorem dL_offers_228 : decode cL_offers 228 = .ok (.iconst 1, 1) := by decide +kernel
theorem dL_offers_229 : decode cL_offers 229 = .ok (.iadd, 1) := by decide +kernel
theorem dL_offers_230 : decode cL_offers 230 = .ok (.iastore, 1) := by decide +kernel
theorem dL_offers_231 : decode cL_offers 231 = .ok (.aload_n 0, 1) := by decide +kernel
theorem dL_offers_232 : decode cL_offers 232 = .ok (.iconst 1, 1) := by decide +kernel
theorem dL_offers_233 : decode cL_offers 233 = .ok (.iload 12, 2) := by decide +kernel
theorem dL_offers_235 : decode cL_offers 235 = .ok (.iload 13, 2) := by decide +kernel
theorem dL_offers_237 : decode cL_offers 237 = .ok (.invokestatic 151, 3) := by decide +kernel
theorem dL_offers_240 : decode cL_offers 240 = .ok (.iload 14, 2) := by decide +kernel
theorem dL_offers_242 : decode cL_offers 242 = .ok (.ifCond .ne 9, 3) := by decide +kernel
theorem dL_offers_245 : decode cL_offers 245 = .ok (.sipush (-1001), 3) := by decide +kernel
theorem dL_offers_248 : decode cL_offers 248 = .ok (.goto 19, 3) := by decide +kernel
theorem dL_offers_251 : decode cL_offers 251 = .ok (.iload 15, 2) := by decide +kernel
theorem dL_offers_253 : decode cL_offers 253 = .ok (.ifCond .eq 11, 3) := by decide +kernel
theorem dL_offers_256 : decode cL_offers 256 = .ok (.aload_n 3, 1) := by decide +kernel
theorem dL_offers_257 : decode cL_offers 257 = .ok (.iconst 4, 1) := by decide +kernel
theorem dL_offers_258 : decode cL_offers 258 = .ok (.iaload, 1) := by decide +kernel
theorem dL_offers_259 : decode cL_offers 259 = .ok (.iconst 1, 1) := by decide +kernel
theorem dL_offers_260 : decode cL_offers 260 = .ok (.isub, 1) := by decide +kernel
theorem dL_offers_261 : decode cL_offers 261 = .ok (.goto 6, 3) := by decide +kernel
theorem dL_offers_264 : decode cL_offers 264 = .ok (.sipush (-1003), 3) := by decide +kernel
theorem dL_offers_267 : decode cL_offers 267 = .ok (.if_icmp .ne 7, 3) := by decide +kernel
theorem dL_offers_270 : decode cL_offers 270 = .ok (.iconst 1, 1) := by decide +kernel
theorem dL_offers_271 : decode cL_offers 271 = .ok (.goto 4, 3) := by decide +kernel
theorem dL_offers_274 : decode cL_offers 274 = .ok (.iconst 0, 1) := by decide +kernel
theorem dL_offers_275 : decode cL_offers 275 = .ok (.ireturn, 1) := by decide +kernel
theorem dL_offers_276 : decode cL_offers 276 = .ok (.iload_n 1, 1) := by decide +kernel
theorem dL_offers_277 : decode cL_offers 277 = .ok (.iconst 1, 1) := by decide +kernel
theorem dL_offers_278 : decode cL_offers 278 = .ok (.if_icmp .ne 74, 3) := by decide +kernel
theorem dL_offers_281 : decode cL_offers 281 = .ok (.iload 11, 2) := by decide +kernel
theorem dL_offers_283 : decode cL_offers 283 = .ok (.ifCond .ne 9, 3) := by decide +kernel
theorem dL_offers_286 : decode cL_offers 286 = .ok (.sipush (-1001), 3) := by decide +kernel
theorem dL_offers_289 : decode cL_offers 289 = .ok (.goto 21, 3) := by decide +kernel
theorem dL_offers_292 : decode cL_offers 292 = .ok (.aload 9, 2) := by decide +kernel
theorem dL_offers_294 : decode cL_offers 294 = .ok (.bipush 24, 2) := by decide +kernel
theorem dL_offers_296 : decode cL_offers 296 = .ok (.iload 10, 2) := by decide +kernel
theorem dL_offers_298 : decode cL_offers 298 = .ok (.iadd, 1) := by decide +kernel
theorem dL_offers_299 : decode cL_offers 299 = .ok (.iaload, 1) := by decide +kernel
theorem dL_offers_300 : decode cL_offers 300 = .ok (.ifCond .ne 9, 3) := by decide +kernel
theorem dL_offers_303 : decode cL_offers 303 = .ok (.sipush (-1003), 3) := by decide +kernel
theorem dL_offers_306 : decode cL_offers 306 = .ok (.goto 4, 3) := by decide +kernel
theorem dL_offers_309 : decode cL_offers 309 = .ok (.iconst 0, 1) := by decide +kernel
theorem dL_offers_310 : decode cL_offers 310 = .ok (.istore 12, 2) := by decide +kernel
theorem dL_offers_312 : decode cL_offers 312 = .ok (.iload 12, 2) := by decide +kernel
theorem dL_offers_314 : decode cL_offers 314 = .ok (.ifCond .ne 20, 3) := by decide +kernel
theorem dL_offers_317 : decode cL_offers 317 = .ok (.aload 9, 2) := by decide +kernel
theorem dL_offers_319 : decode cL_offers 319 = .ok (.bipush 24, 2) := by decide +kernel
theorem dL_offers_321 : decode cL_offers 321 = .ok (.iload 10, 2) := by decide +kernel
theorem dL_offers_323 : decode cL_offers 323 = .ok (.iadd, 1) := by decide +kernel
theorem dL_offers_324 : decode cL_offers 324 = .ok (.iconst 0, 1) := by decide +kernel
theorem dL_offers_325 : decode cL_offers 325 = .ok (.iastore, 1) := by decide +kernel
theorem dL_offers_326 : decode cL_offers 326 = .ok (.aload_n 3, 1) := by decide +kernel
theorem dL_offers_327 : decode cL_offers 327 = .ok (.aload 9, 2) := by decide +kernel
theorem dL_offers_329 : decode cL_offers 329 = .ok (.invokestatic 165, 3) := by decide +kernel
theorem dL_offers_332 : decode cL_offers 332 = .ok (.istore 12, 2) := by decide +kernel
theorem dL_offers_334 : decode cL_offers 334 = .ok (.aload_n 0, 1) := by decide +kernel
theorem dL_offers_335 : decode cL_offers 335 = .ok (.iconst 3, 1) := by decide +kernel
theorem dL_offers_336 : decode cL_offers 336 = .ok (.iload 10, 2) := by decide +kernel
theorem dL_offers_338 : decode cL_offers 338 = .ok (.invokestatic 158, 3) := by decide +kernel
theorem dL_offers_341 : decode cL_offers 341 = .ok (.iload 12, 2) := by decide +kernel
theorem dL_offers_343 : decode cL_offers 343 = .ok (.if_icmp .ne 7, 3) := by decide +kernel
theorem dL_offers_346 : decode cL_offers 346 = .ok (.iconst 1, 1) := by decide +kernel
theorem dL_offers_347 : decode cL_offers 347 = .ok (.goto 4, 3) := by decide +kernel
theorem dL_offers_350 : decode cL_offers 350 = .ok (.iconst 0, 1) := by decide +kernel
theorem dL_offers_351 : decode cL_offers 351 = .ok (.ireturn, 1) := by decide +kernel
theorem dL_offers_352 : decode cL_offers 352 = .ok (.bipush 8, 2) := by decide +kernel
theorem dL_offers_354 : decode cL_offers 354 = .ok (.newarray .int, 2) := by decide +kernel
theorem dL_offers_356 : decode cL_offers 356 = .ok (.astore 12, 2) := by decide +kernel
theorem dL_offers_358 : decode cL_offers 358 = .ok (.iload 11, 2) := by decide +kernel
theorem dL_offers_360 : decode cL_offers 360 = .ok (.ifCond .eq 18, 3) := by decide +kernel
theorem dL_offers_363 : decode cL_offers 363 = .ok (.aload_n 3, 1) := by decide +kernel
theorem dL_offers_364 : decode cL_offers 364 = .ok (.aload 5, 2) := by decide +kernel
theorem dL_offers_366 : decode cL_offers 366 = .ok (.aload 9, 2) := by decide +kernel
theorem dL_offers_368 : decode cL_offers 368 = .ok (.aload 12, 2) := by decide +kernel
theorem dL_offers_370 : decode cL_offers 370 = .ok (.iload 10, 2) := by decide +kernel
theorem dL_offers_372 : decode cL_offers 372 = .ok (.invokestatic 169, 3) := by decide +kernel
theorem dL_offers_375 : decode cL_offers 375 = .ok (.goto 4, 3) := by decide +kernel
theorem dL_offers_378 : decode cL_offers 378 = .ok (.iconst 0, 1) := by decide +kernel
theorem dL_offers_379 : decode cL_offers 379 = .ok (.istore 13, 2) := by decide +kernel
theorem dL_offers_381 : decode cL_offers 381 = .ok (.iload 13, 2) := by decide +kernel
theorem dL_offers_383 : decode cL_offers 383 = .ok (.ifCond .le 7, 3) := by decide +kernel
theorem dL_offers_386 : decode cL_offers 386 = .ok (.iconst 1, 1) := by decide +kernel
theorem dL_offers_387 : decode cL_offers 387 = .ok (.goto 4, 3) := by decide +kernel
theorem dL_offers_390 : decode cL_offers 390 = .ok (.iconst 0, 1) := by decide +kernel
theorem dL_offers_391 : decode cL_offers 391 = .ok (.istore 14, 2) := by decide +kernel
theorem dL_offers_393 : decode cL_offers 393 = .ok (.iconst 0, 1) := by decide +kernel
theorem dL_offers_394 : decode cL_offers 394 = .ok (.istore 15, 2) := by decide +kernel
theorem dL_offers_396 : decode cL_offers 396 = .ok (.iload 15, 2) := by decide +kernel
theorem dL_offers_398 : decode cL_offers 398 = .ok (.iload 13, 2) := by decide +kernel
theorem dL_offers_400 : decode cL_offers 400 = .ok (.if_icmp .ge 82, 3) := by decide +kernel
theorem dL_offers_403 : decode cL_offers 403 = .ok (.iload 14, 2) := by decide +kernel
theorem dL_offers_405 : decode cL_offers 405 = .ok (.ifCond .eq 68, 3) := by decide +kernel
theorem dL_offers_408 : decode cL_offers 408 = .ok (.aload 5, 2) := by decide +kernel
theorem dL_offers_410 : decode cL_offers 410 = .ok (.aload 9, 2) := by decide +kernel
theorem dL_offers_412 : decode cL_offers 412 = .ok (.aload 12, 2) := by decide +kernel
theorem dL_offers_414 : decode cL_offers 414 = .ok (.iload 15, 2) := by decide +kernel
theorem dL_offers_416 : decode cL_offers 416 = .ok (.iaload, 1) := by decide +kernel
theorem dL_offers_417 : decode cL_offers 417 = .ok (.iaload, 1) := by decide +kernel
theorem dL_offers_418 : decode cL_offers 418 = .ok (.iaload, 1) := by decide +kernel
theorem dL_offers_419 : decode cL_offers 419 = .ok (.aload_n 3, 1) := by decide +kernel
theorem dL_offers_420 : decode cL_offers 420 = .ok (.iconst 0, 1) := by decide +kernel
theorem dL_offers_421 : decode cL_offers 421 = .ok (.iaload, 1) := by decide +kernel
theorem dL_offers_422 : decode cL_offers 422 = .ok (.if_icmp .le 51, 3) := by decide +kernel
theorem dL_offers_425 : decode cL_offers 425 = .ok (.aload_n 3, 1) := by decide +kernel
theorem dL_offers_426 : decode cL_offers 426 = .ok (.aload 4, 2) := by decide +kernel
theorem dL_offers_428 : decode cL_offers 428 = .ok (.aload 5, 2) := by decide +kernel
theorem dL_offers_430 : decode cL_offers 430 = .ok (.aload 5, 2) := by decide +kernel
theorem dL_offers_432 : decode cL_offers 432 = .ok (.bipush 30, 2) := by decide +kernel
theorem dL_offers_434 : decode cL_offers 434 = .ok (.aload 9, 2) := by decide +kernel
theorem dL_offers_436 : decode cL_offers 436 = .ok (.aload 12, 2) := by decide +kernel
theorem dL_offers_438 : decode cL_offers 438 = .ok (.iload 15, 2) := by decide +kernel
theorem dL_offers_440 : decode cL_offers 440 = .ok (.iaload, 1) := by decide +kernel
theorem dL_offers_441 : decode cL_offers 441 = .ok (.iaload, 1) := by decide +kernel
theorem dL_offers_442 : decode cL_offers 442 = .ok (.iadd, 1) := by decide +kernel
theorem dL_offers_443 : decode cL_offers 443 = .ok (.iaload, 1) := by decide +kernel
theorem dL_offers_444 : decode cL_offers 444 = .ok (.aload 9, 2) := by decide +kernel
theorem dL_offers_446 : decode cL_offers 446 = .ok (.bipush 12, 2) := by decide +kernel
theorem dL_offers_448 : decode cL_offers 448 = .ok (.aload 12, 2) := by decide +kernel
theorem dL_offers_450 : decode cL_offers 450 = .ok (.iload 15, 2) := by decide +kernel
theorem dL_offers_452 : decode cL_offers 452 = .ok (.iaload, 1) := by decide +kernel
theorem dL_offers_453 : decode cL_offers 453 = .ok (.iadd, 1) := by decide +kernel
theorem dL_offers_454 : decode cL_offers 454 = .ok (.iaload, 1) := by decide +kernel
theorem dL_offers_455 : decode cL_offers 455 = .ok (.aload 9, 2) := by decide +kernel
theorem dL_offers_457 : decode cL_offers 457 = .ok (.aload 12, 2) := by decide +kernel
theorem dL_offers_459 : decode cL_offers 459 = .ok (.iload 15, 2) := by decide +kernel
theorem dL_offers_461 : decode cL_offers 461 = .ok (.iaload, 1) := by decide +kernel
theorem dL_offers_462 : decode cL_offers 462 = .ok (.iaload, 1) := by decide +kernel
theorem dL_offers_463 : decode cL_offers 463 = .ok (.invokestatic 143, 3) := by decide +kernel
theorem dL_offers_466 : decode cL_offers 466 = .ok (.ifCond .eq 7, 3) := by decide +kernel
theorem dL_offers_469 : decode cL_offers 469 = .ok (.iconst 1, 1) := by decide +kernel
theorem dL_offers_470 : decode cL_offers 470 = .ok (.goto 4, 3) := by decide +kernel
theorem dL_offers_473 : decode cL_offers 473 = .ok (.iconst 0, 1) := by decide +kernel
theorem dL_offers_474 : decode cL_offers 474 = .ok (.istore 14, 2) := by decide +kernel
theorem dL_offers_476 : decode cL_offers 476 = .ok (.iinc 15 1, 3) := by decide +kernel
theorem dL_offers_479 : decode cL_offers 479 = .ok (.goto (-83), 3) := by decide +kernel
theorem dL_offers_482 : decode cL_offers 482 = .ok (.aload_n 3, 1) := by decide +kernel
theorem dL_offers_483 : decode cL_offers 483 = .ok (.iconst 3, 1) := by decide +kernel
theorem dL_offers_484 : decode cL_offers 484 = .ok (.iaload, 1) := by decide +kernel
theorem dL_offers_485 : decode cL_offers 485 = .ok (.istore 15, 2) := by decide +kernel
theorem dL_offers_487 : decode cL_offers 487 = .ok (.iload 14, 2) := by decide +kernel
theorem dL_offers_489 : decode cL_offers 489 = .ok (.ifCond .eq 97, 3) := by decide +kernel
theorem dL_offers_492 : decode cL_offers 492 = .ok (.bipush 8, 2) := by decide +kernel
theorem dL_offers_494 : decode cL_offers 494 = .ok (.newarray .int, 2) := by decide +kernel
theorem dL_offers_496 : decode cL_offers 496 = .ok (.astore 16, 2) := by decide +kernel
theorem dL_offers_498 : decode cL_offers 498 = .ok (.iconst 0, 1) := by decide +kernel
theorem dL_offers_499 : decode cL_offers 499 = .ok (.istore 17, 2) := by decide +kernel
theorem dL_offers_501 : decode cL_offers 501 = .ok (.iload 17, 2) := by decide +kernel
theorem dL_offers_503 : decode cL_offers 503 = .ok (.iload 13, 2) := by decide +kernel
theorem dL_offers_505 : decode cL_offers 505 = .ok (.if_icmp .ge 28, 3) := by decide +kernel
theorem dL_offers_508 : decode cL_offers 508 = .ok (.aload 16, 2) := by decide +kernel
theorem dL_offers_510 : decode cL_offers 510 = .ok (.iload 17, 2) := by decide +kernel
theorem dL_offers_512 : decode cL_offers 512 = .ok (.aload 5, 2) := by decide +kernel
theorem dL_offers_514 : decode cL_offers 514 = .ok (.bipush 30, 2) := by decide +kernel
theorem dL_offers_516 : decode cL_offers 516 = .ok (.aload 9, 2) := by decide +kernel
theorem dL_offers_518 : decode cL_offers 518 = .ok (.aload 12, 2) := by decide +kernel
theorem dL_offers_520 : decode cL_offers 520 = .ok (.iload 17, 2) := by decide +kernel
theorem dL_offers_522 : decode cL_offers 522 = .ok (.iaload, 1) := by decide +kernel
theorem dL_offers_523 : decode cL_offers 523 = .ok (.iaload, 1) := by decide +kernel
theorem dL_offers_524 : decode cL_offers 524 = .ok (.iadd, 1) := by decide +kernel
theorem dL_offers_525 : decode cL_offers 525 = .ok (.iaload, 1) := by decide +kernel
theorem dL_offers_526 : decode cL_offers 526 = .ok (.iastore, 1) := by decide +kernel
theorem dL_offers_527 : decode cL_offers 527 = .ok (.iinc 17 1, 3) := by decide +kernel
theorem dL_offers_530 : decode cL_offers 530 = .ok (.goto (-29), 3) := by decide +kernel
theorem dL_offers_533 : decode cL_offers 533 = .ok (.iconst 0, 1) := by decide +kernel
theorem dL_offers_534 : decode cL_offers 534 = .ok (.istore 17, 2) := by decide +kernel
theorem dL_offers_536 : decode cL_offers 536 = .ok (.iload 17, 2) := by decide +kernel
theorem dL_offers_538 : decode cL_offers 538 = .ok (.iload 13, 2) := by decide +kernel
theorem dL_offers_540 : decode cL_offers 540 = .ok (.if_icmp .ge 33, 3) := by decide +kernel
theorem dL_offers_543 : decode cL_offers 543 = .ok (.aload_n 3, 1) := by decide +kernel
theorem dL_offers_544 : decode cL_offers 544 = .ok (.aload 5, 2) := by decide +kernel
theorem dL_offers_546 : decode cL_offers 546 = .ok (.aload 9, 2) := by decide +kernel
theorem dL_offers_548 : decode cL_offers 548 = .ok (.aload 9, 2) := by decide +kernel
theorem dL_offers_550 : decode cL_offers 550 = .ok (.bipush 12, 2) := by decide +kernel
theorem dL_offers_552 : decode cL_offers 552 = .ok (.aload 12, 2) := by decide +kernel
theorem dL_offers_554 : decode cL_offers 554 = .ok (.iload 17, 2) := by decide +kernel
theorem dL_offers_556 : decode cL_offers 556 = .ok (.iaload, 1) := by decide +kernel
theorem dL_offers_557 : decode cL_offers 557 = .ok (.iadd, 1) := by decide +kernel
theorem dL_offers_558 : decode cL_offers 558 = .ok (.iaload, 1) := by decide +kernel
theorem dL_offers_559 : decode cL_offers 559 = .ok (.aload 16, 2) := by decide +kernel
theorem dL_offers_561 : decode cL_offers 561 = .ok (.iload 17, 2) := by decide +kernel
theorem dL_offers_563 : decode cL_offers 563 = .ok (.iaload, 1) := by decide +kernel
theorem dL_offers_564 : decode cL_offers 564 = .ok (.invokestatic 147, 3) := by decide +kernel
theorem dL_offers_567 : decode cL_offers 567 = .ok (.iinc 17 1, 3) := by decide +kernel
theorem dL_offers_570 : decode cL_offers 570 = .ok (.goto (-34), 3) := by decide +kernel
theorem dL_offers_573 : decode cL_offers 573 = .ok (.aload_n 3, 1) := by decide +kernel
theorem dL_offers_574 : decode cL_offers 574 = .ok (.aload 5, 2) := by decide +kernel
theorem dL_offers_576 : decode cL_offers 576 = .ok (.aload 6, 2) := by decide +kernel
theorem dL_offers_578 : decode cL_offers 578 = .ok (.aload 7, 2) := by decide +kernel
theorem dL_offers_580 : decode cL_offers 580 = .ok (.aload 8, 2) := by decide +kernel
theorem dL_offers_582 : decode cL_offers 582 = .ok (.invokestatic 136, 3) := by decide +kernel
theorem dL_offers_585 : decode cL_offers 585 = .ok (.pop, 1) := by decide +kernel
theorem dL_offers_586 : decode cL_offers 586 = .ok (.aload_n 0, 1) := by decide +kernel
theorem dL_offers_587 : decode cL_offers 587 = .ok (.iconst 4, 1) := by decide +kernel
theorem dL_offers_588 : decode cL_offers 588 = .ok (.iload 10, 2) := by decide +kernel
theorem dL_offers_590 : decode cL_offers 590 = .ok (.invokestatic 158, 3) := by decide +kernel
theorem dL_offers_593 : decode cL_offers 593 = .ok (.iload 11, 2) := by decide +kernel
theorem dL_offers_595 : decode cL_offers 595 = .ok (.ifCond .ne 9, 3) := by decide +kernel
theorem dL_offers_598 : decode cL_offers 598 = .ok (.sipush (-1001), 3) := by decide +kernel
theorem dL_offers_601 : decode cL_offers 601 = .ok (.goto 20, 3) := by decide +kernel
theorem dL_offers_604 : decode cL_offers 604 = .ok (.iload 14, 2) := by decide +kernel
theorem dL_offers_606 : decode cL_offers 606 = .ok (.ifCond .eq 12, 3) := by decide +kernel
theorem dL_offers_609 : decode cL_offers 609 = .ok (.aload_n 3, 1) := by decide +kernel
theorem dL_offers_610 : decode cL_offers 610 = .ok (.iconst 3, 1) := by decide +kernel
theorem dL_offers_611 : decode cL_offers 611 = .ok (.iaload, 1) := by decide +kernel
theorem dL_offers_612 : decode cL_offers 612 = .ok (.iload 15, 2) := by decide +kernel
theorem dL_offers_614 : decode cL_offers 614 = .ok (.isub, 1) := by decide +kernel
theorem dL_offers_615 : decode cL_offers 615 = .ok (.goto 6, 3) := by decide +kernel
theorem dL_offers_618 : decode cL_offers 618 = .ok (.sipush (-1003), 3) := by decide +kernel
theorem dL_offers_621 : decode cL_offers 621 = .ok (.if_icmp .ne 7, 3) := by decide +kernel
theorem dL_offers_624 : decode cL_offers 624 = .ok (.iconst 1, 1) := by decide +kernel
theorem dL_offers_625 : decode cL_offers 625 = .ok (.goto 4, 3) := by decide +kernel
theorem dL_offers_628 : decode cL_offers 628 = .ok (.iconst 0, 1) := by decide +kernel
theorem dL_offers_629 : decode cL_offers 629 = .ok (.ireturn, 1) := by decide +kernel
theorem dL_asks_0 : decode cL_asks 0 = .ok (.bipush 8, 2) := by decide +kernel
theorem dL_asks_2 : decode cL_asks 2 = .ok (.newarray .int, 2) := by decide +kernel
theorem dL_asks_4 : decode cL_asks 4 = .ok (.astore 9, 2) := by decide +kernel
theorem dL_asks_6 : decode cL_asks 6 = .ok (.iload_n 1, 1) := by decide +kernel
theorem dL_asks_7 : decode cL_asks 7 = .ok (.iconst 3, 1) := by decide +kernel
theorem dL_asks_8 : decode cL_asks 8 = .ok (.ishr, 1) := by decide +kernel
theorem dL_asks_9 : decode cL_asks 9 = .ok (.aload_n 2, 1) := by decide +kernel
theorem dL_asks_10 : decode cL_asks 10 = .ok (.iconst 1, 1) := by decide +kernel
theorem dL_asks_11 : decode cL_asks 11 = .ok (.iaload, 1) := by decide +kernel
theorem dL_asks_12 : decode cL_asks 12 = .ok (.iconst 1, 1) := by decide +kernel
theorem dL_asks_13 : decode cL_asks 13 = .ok (.iadd, 1) := by decide +kernel
theorem dL_asks_14 : decode cL_asks 14 = .ok (.invokestatic 116, 3) := by decide +kernel
theorem dL_asks_17 : decode cL_asks 17 = .ok (.istore 10, 2) := by decide +kernel
theorem dL_asks_19 : decode cL_asks 19 = .ok (.iload 10, 2) := by decide +kernel
theorem dL_asks_21 : decode cL_asks 21 = .ok (.aload_n 2, 1) := by decide +kernel
theorem dL_asks_22 : decode cL_asks 22 = .ok (.iconst 1, 1) := by decide +kernel
theorem dL_asks_23 : decode cL_asks 23 = .ok (.iaload, 1) := by decide +kernel
theorem dL_asks_24 : decode cL_asks 24 = .ok (.if_icmp .ge 7, 3) := by decide +kernel
theorem dL_asks_27 : decode cL_asks 27 = .ok (.iconst 1, 1) := by decide +kernel
theorem dL_asks_28 : decode cL_asks 28 = .ok (.goto 4, 3) := by decide +kernel
theorem dL_asks_31 : decode cL_asks 31 = .ok (.iconst 0, 1) := by decide +kernel
theorem dL_asks_32 : decode cL_asks 32 = .ok (.istore 11, 2) := by decide +kernel
theorem dL_asks_34 : decode cL_asks 34 = .ok (.iload 11, 2) := by decide +kernel
theorem dL_asks_36 : decode cL_asks 36 = .ok (.ifCond .eq 25, 3) := by decide +kernel
theorem dL_asks_39 : decode cL_asks 39 = .ok (.aload 4, 2) := by decide +kernel
theorem dL_asks_41 : decode cL_asks 41 = .ok (.bipush 30, 2) := by decide +kernel
theorem dL_asks_43 : decode cL_asks 43 = .ok (.iload 10, 2) := by decide +kernel
theorem dL_asks_45 : decode cL_asks 45 = .ok (.iadd, 1) := by decide +kernel
theorem dL_asks_46 : decode cL_asks 46 = .ok (.iaload, 1) := by decide +kernel
theorem dL_asks_47 : decode cL_asks 47 = .ok (.ifCond .lt 14, 3) := by decide +kernel
theorem dL_asks_50 : decode cL_asks 50 = .ok (.aload_n 2, 1) := by decide +kernel
theorem dL_asks_51 : decode cL_asks 51 = .ok (.aload 4, 2) := by decide +kernel
theorem dL_asks_53 : decode cL_asks 53 = .ok (.iload 10, 2) := by decide +kernel
theorem dL_asks_55 : decode cL_asks 55 = .ok (.invokestatic 15, 3) := by decide +kernel
theorem dL_asks_58 : decode cL_asks 58 = .ok (.goto 4, 3) := by decide +kernel
theorem dL_asks_61 : decode cL_asks 61 = .ok (.iconst (-1), 1) := by decide +kernel
theorem dL_asks_62 : decode cL_asks 62 = .ok (.istore 12, 2) := by decide +kernel
theorem dL_asks_64 : decode cL_asks 64 = .ok (.aload_n 0, 1) := by decide +kernel
theorem dL_asks_65 : decode cL_asks 65 = .ok (.bipush 6, 2) := by decide +kernel
theorem dL_asks_67 : decode cL_asks 67 = .ok (.iload 10, 2) := by decide +kernel
theorem dL_asks_69 : decode cL_asks 69 = .ok (.invokestatic 158, 3) := by decide +kernel
theorem dL_asks_72 : decode cL_asks 72 = .ok (.iload 11, 2) := by decide +kernel
theorem dL_asks_74 : decode cL_asks 74 = .ok (.ifCond .eq 14, 3) := by decide +kernel
theorem dL_asks_77 : decode cL_asks 77 = .ok (.aload 4, 2) := by decide +kernel
theorem dL_asks_79 : decode cL_asks 79 = .ok (.bipush 30, 2) := by decide +kernel
theorem dL_asks_81 : decode cL_asks 81 = .ok (.iload 10, 2) := by decide +kernel
theorem dL_asks_83 : decode cL_asks 83 = .ok (.iadd, 1) := by decide +kernel
theorem dL_asks_84 : decode cL_asks 84 = .ok (.iaload, 1) := by decide +kernel
theorem dL_asks_85 : decode cL_asks 85 = .ok (.goto 6, 3) := by decide +kernel
theorem dL_asks_88 : decode cL_asks 88 = .ok (.sipush (-1001), 3) := by decide +kernel
theorem dL_asks_91 : decode cL_asks 91 = .ok (.if_icmp .ne 53, 3) := by decide +kernel
theorem dL_asks_94 : decode cL_asks 94 = .ok (.aload_n 0, 1) := by decide +kernel
theorem dL_asks_95 : decode cL_asks 95 = .ok (.bipush 7, 2) := by decide +kernel
theorem dL_asks_97 : decode cL_asks 97 = .ok (.iload 10, 2) := by decide +kernel
theorem dL_asks_99 : decode cL_asks 99 = .ok (.invokestatic 158, 3) := by decide +kernel
theorem dL_asks_102 : decode cL_asks 102 = .ok (.iload 11, 2) := by decide +kernel
theorem dL_asks_104 : decode cL_asks 104 = .ok (.ifCond .ne 9, 3) := by decide +kernel
theorem dL_asks_107 : decode cL_asks 107 = .ok (.sipush (-1001), 3) := by decide +kernel
theorem dL_asks_110 : decode cL_asks 110 = .ok (.goto 31, 3) := by decide +kernel
theorem dL_asks_113 : decode cL_asks 113 = .ok (.iload 12, 2) := by decide +kernel
theorem dL_asks_115 : decode cL_asks 115 = .ok (.ifCond .ge 9, 3) := by decide +kernel
theorem dL_asks_118 : decode cL_asks 118 = .ok (.sipush 10000, 3) := by decide +kernel
theorem dL_asks_121 : decode cL_asks 121 = .ok (.goto 20, 3) := by decide +kernel
theorem dL_asks_124 : decode cL_asks 124 = .ok (.aload 4, 2) := by decide +kernel
theorem dL_asks_126 : decode cL_asks 126 = .ok (.bipush 40, 2) := by decide +kernel
theorem dL_asks_128 : decode cL_asks 128 = .ok (.iload 10, 2) := by decide +kernel
theorem dL_asks_130 : decode cL_asks 130 = .ok (.iadd, 1) := by decide +kernel
theorem dL_asks_131 : decode cL_asks 131 = .ok (.iaload, 1) := by decide +kernel
theorem dL_asks_132 : decode cL_asks 132 = .ok (.aload 4, 2) := by decide +kernel
theorem dL_asks_134 : decode cL_asks 134 = .ok (.bipush 50, 2) := by decide +kernel
theorem dL_asks_136 : decode cL_asks 136 = .ok (.iload 12, 2) := by decide +kernel
theorem dL_asks_138 : decode cL_asks 138 = .ok (.iadd, 1) := by decide +kernel
theorem dL_asks_139 : decode cL_asks 139 = .ok (.iaload, 1) := by decide +kernel
theorem dL_asks_140 : decode cL_asks 140 = .ok (.isub, 1) := by decide +kernel
theorem dL_asks_141 : decode cL_asks 141 = .ok (.if_icmp .eq 5, 3) := by decide +kernel
theorem dL_asks_144 : decode cL_asks 144 = .ok (.iconst 0, 1) := by decide +kernel
theorem dL_asks_145 : decode cL_asks 145 = .ok (.ireturn, 1) := by decide +kernel
theorem dL_asks_146 : decode cL_asks 146 = .ok (.iconst 0, 1) := by decide +kernel
theorem dL_asks_147 : decode cL_asks 147 = .ok (.istore 13, 2) := by decide +kernel
theorem dL_asks_149 : decode cL_asks 149 = .ok (.iload 13, 2) := by decide +kernel
theorem dL_asks_151 : decode cL_asks 151 = .ok (.aload_n 2, 1) := by decide +kernel
theorem dL_asks_152 : decode cL_asks 152 = .ok (.iconst 2, 1) := by decide +kernel
theorem dL_asks_153 : decode cL_asks 153 = .ok (.iaload, 1) := by decide +kernel
theorem dL_asks_154 : decode cL_asks 154 = .ok (.if_icmp .gt 62, 3) := by decide +kernel
theorem dL_asks_157 : decode cL_asks 157 = .ok (.aload_n 0, 1) := by decide +kernel
theorem dL_asks_158 : decode cL_asks 158 = .ok (.iconst 3, 1) := by decide +kernel
theorem dL_asks_159 : decode cL_asks 159 = .ok (.iload 10, 2) := by decide +kernel
theorem dL_asks_161 : decode cL_asks 161 = .ok (.iload 13, 2) := by decide +kernel
theorem dL_asks_163 : decode cL_asks 163 = .ok (.invokestatic 151, 3) := by decide +kernel
theorem dL_asks_166 : decode cL_asks 166 = .ok (.iload 11, 2) := by decide +kernel
theorem dL_asks_168 : decode cL_asks 168 = .ok (.ifCond .eq 11, 3) := by decide +kernel
theorem dL_asks_171 : decode cL_asks 171 = .ok (.iload 13, 2) := by decide +kernel
theorem dL_asks_173 : decode cL_asks 173 = .ok (.aload_n 2, 1) := by decide +kernel
theorem dL_asks_174 : decode cL_asks 174 = .ok (.iconst 2, 1) := by decide +kernel
theorem dL_asks_175 : decode cL_asks 175 = .ok (.iaload, 1) := by decide +kernel
theorem dL_asks_176 : decode cL_asks 176 = .ok (.if_icmp .ne 9, 3) := by decide +kernel
theorem dL_asks_179 : decode cL_asks 179 = .ok (.sipush (-1001), 3) := by decide +kernel
theorem dL_asks_182 : decode cL_asks 182 = .ok (.goto 23, 3) := by decide +kernel
theorem dL_asks_185 : decode cL_asks 185 = .ok (.aload_n 2, 1) := by decide +kernel
theorem dL_asks_186 : decode cL_asks 186 = .ok (.aload 4, 2) := by decide +kernel
theorem dL_asks_188 : decode cL_asks 188 = .ok (.aload 5, 2) := by decide +kernel
theorem dL_asks_190 : decode cL_asks 190 = .ok (.iload 10, 2) := by decide +kernel
theorem dL_asks_192 : decode cL_asks 192 = .ok (.iload 13, 2) := by decide +kernel
theorem dL_asks_194 : decode cL_asks 194 = .ok (.invokestatic 19, 3) := by decide +kernel
theorem dL_asks_197 : decode cL_asks 197 = .ok (.ifCond .eq 7, 3) := by decide +kernel
theorem dL_asks_200 : decode cL_asks 200 = .ok (.iconst 1, 1) := by decide +kernel
theorem dL_asks_201 : decode cL_asks 201 = .ok (.goto 4, 3) := by decide +kernel
theorem dL_asks_204 : decode cL_asks 204 = .ok (.iconst 0, 1) := by decide +kernel
theorem dL_asks_205 : decode cL_asks 205 = .ok (.if_icmp .eq 5, 3) := by decide +kernel
theorem dL_asks_208 : decode cL_asks 208 = .ok (.iconst 0, 1) := by decide +kernel
theorem dL_asks_209 : decode cL_asks 209 = .ok (.ireturn, 1) := by decide +kernel
theorem dL_asks_210 : decode cL_asks 210 = .ok (.iinc 13 1, 3) := by decide +kernel
theorem dL_asks_213 : decode cL_asks 213 = .ok (.goto (-64), 3) := by decide +kernel
theorem dL_asks_216 : decode cL_asks 216 = .ok (.iconst 0, 1) := by decide +kernel
theorem dL_asks_217 : decode cL_asks 217 = .ok (.istore 13, 2) := by decide +kernel
theorem dL_asks_219 : decode cL_asks 219 = .ok (.iload 13, 2) := by decide +kernel
theorem dL_asks_221 : decode cL_asks 221 = .ok (.aload_n 2, 1) := by decide +kernel
theorem dL_asks_222 : decode cL_asks 222 = .ok (.iconst 3, 1) := by decide +kernel
theorem dL_asks_223 : decode cL_asks 223 = .ok (.iaload, 1) := by decide +kernel
theorem dL_asks_224 : decode cL_asks 224 = .ok (.if_icmp .gt 129, 3) := by decide +kernel
theorem dL_asks_227 : decode cL_asks 227 = .ok (.iload 13, 2) := by decide +kernel
theorem dL_asks_229 : decode cL_asks 229 = .ok (.aload_n 2, 1) := by decide +kernel
theorem dL_asks_230 : decode cL_asks 230 = .ok (.iconst 3, 1) := by decide +kernel
theorem dL_asks_231 : decode cL_asks 231 = .ok (.iaload, 1) := by decide +kernel
theorem dL_asks_232 : decode cL_asks 232 = .ok (.if_icmp .ge 7, 3) := by decide +kernel
theorem dL_asks_235 : decode cL_asks 235 = .ok (.iconst 1, 1) := by decide +kernel
theorem dL_asks_236 : decode cL_asks 236 = .ok (.goto 4, 3) := by decide +kernel
theorem dL_asks_239 : decode cL_asks 239 = .ok (.iconst 0, 1) := by decide +kernel
theorem dL_asks_240 : decode cL_asks 240 = .ok (.istore 14, 2) := by decide +kernel
theorem dL_asks_242 : decode cL_asks 242 = .ok (.aload_n 0, 1) := by decide +kernel
theorem dL_asks_243 : decode cL_asks 243 = .ok (.bipush 8, 2) := by decide +kernel
theorem dL_asks_245 : decode cL_asks 245 = .ok (.iload 13, 2) := by decide +kernel
theorem dL_asks_247 : decode cL_asks 247 = .ok (.invokestatic 158, 3) := by decide +kernel
theorem dL_asks_250 : decode cL_asks 250 = .ok (.iload 14, 2) := by decide +kernel
theorem dL_asks_252 : decode cL_asks 252 = .ok (.ifCond .eq 13, 3) := by decide +kernel
theorem dL_asks_255 : decode cL_asks 255 = .ok (.aload 7, 2) := by decide +kernel
theorem dL_asks_257 : decode cL_asks 257 = .ok (.iload 13, 2) := by decide +kernel
theorem dL_asks_259 : decode cL_asks 259 = .ok (.iaload, 1) := by decide +kernel
theorem dL_asks_260 : decode cL_asks 260 = .ok (.iconst 4, 1) := by decide +kernel
theorem dL_asks_261 : decode cL_asks 261 = .ok (.irem, 1) := by decide +kernel
theorem dL_asks_262 : decode cL_asks 262 = .ok (.goto 6, 3) := by decide +kernel
theorem dL_asks_265 : decode cL_asks 265 = .ok (.sipush (-1001), 3) := by decide +kernel
theorem dL_asks_268 : decode cL_asks 268 = .ok (.if_icmp .ne 77, 3) := by decide +kernel
theorem dL_asks_271 : decode cL_asks 271 = .ok (.aload_n 0, 1) := by decide +kernel
theorem dL_asks_272 : decode cL_asks 272 = .ok (.bipush 9, 2) := by decide +kernel
theorem dL_asks_274 : decode cL_asks 274 = .ok (.iload 13, 2) := by decide +kernel
theorem dL_asks_276 : decode cL_asks 276 = .ok (.invokestatic 158, 3) := by decide +kernel
theorem dL_asks_279 : decode cL_asks 279 = .ok (.iload 14, 2) := by decide +kernel
theorem dL_asks_281 : decode cL_asks 281 = .ok (.ifCond .eq 11, 3) := by decide +kernel
theorem dL_asks_284 : decode cL_asks 284 = .ok (.aload 6, 2) := by decide +kernel
theorem dL_asks_286 : decode cL_asks 286 = .ok (.iload 13, 2) := by decide +kernel
theorem dL_asks_288 : decode cL_asks 288 = .ok (.iaload, 1) := by decide +kernel
theorem dL_asks_289 : decode cL_asks 289 = .ok (.goto 6, 3) := by decide +kernel
theorem dL_asks_292 : decode cL_asks 292 = .ok (.sipush (-1001), 3) := by decide +kernel
theorem dL_asks_295 : decode cL_asks 295 = .ok (.if_icmp .ne 50, 3) := by decide +kernel
theorem dL_asks_298 : decode cL_asks 298 = .ok (.iload 13, 2) := by decide +kernel
theorem dL_asks_300 : decode cL_asks 300 = .ok (.iconst 3, 1) := by decide +kernel
theorem dL_asks_301 : decode cL_asks 301 = .ok (.irem, 1) := by decide +kernel
theorem dL_asks_302 : decode cL_asks 302 = .ok (.iload_n 1, 1) := by decide +kernel
theorem dL_asks_303 : decode cL_asks 303 = .ok (.iconst 3, 1) := by decide +kernel
theorem dL_asks_304 : decode cL_asks 304 = .ok (.invokestatic 116, 3) := by decide +kernel
theorem dL_asks_307 : decode cL_asks 307 = .ok (.if_icmp .ne 40, 3) := by decide +kernel
theorem dL_asks_310 : decode cL_asks 310 = .ok (.aload_n 0, 1) := by decide +kernel
theorem dL_asks_311 : decode cL_asks 311 = .ok (.bipush 10, 2) := by decide +kernel
theorem dL_asks_313 : decode cL_asks 313 = .ok (.iload 13, 2) := by decide +kernel
theorem dL_asks_315 : decode cL_asks 315 = .ok (.invokestatic 158, 3) := by decide +kernel
theorem dL_asks_318 : decode cL_asks 318 = .ok (.iload 14, 2) := by decide +kernel
theorem dL_asks_320 : decode cL_asks 320 = .ok (.ifCond .eq 19, 3) := by decide +kernel
theorem dL_asks_323 : decode cL_asks 323 = .ok (.aload_n 3, 1) := by decide +kernel
theorem dL_asks_324 : decode cL_asks 324 = .ok (.aload 4, 2) := by decide +kernel
theorem dL_asks_326 : decode cL_asks 326 = .ok (.aload 5, 2) := by decide +kernel
theorem dL_asks_328 : decode cL_asks 328 = .ok (.aload 6, 2) := by decide +kernel
theorem dL_asks_330 : decode cL_asks 330 = .ok (.iload 13, 2) := by decide +kernel
theorem dL_asks_332 : decode cL_asks 332 = .ok (.iaload, 1) := by decide +kernel
theorem dL_asks_333 : decode cL_asks 333 = .ok (.invokestatic 162, 3) := by decide +kernel
theorem dL_asks_336 : decode cL_asks 336 = .ok (.goto 6, 3) := by decide +kernel
theorem dL_asks_339 : decode cL_asks 339 = .ok (.sipush (-1001), 3) := by decide +kernel
theorem dL_asks_342 : decode cL_asks 342 = .ok (.if_icmp .eq 5, 3) := by decide +kernel
theorem dL_asks_345 : decode cL_asks 345 = .ok (.iconst 0, 1) := by decide +kernel
theorem dL_asks_346 : decode cL_asks 346 = .ok (.ireturn, 1) := by decide +kernel
theorem dL_asks_347 : decode cL_asks 347 = .ok (.iinc 13 1, 3) := by decide +kernel
theorem dL_asks_350 : decode cL_asks 350 = .ok (.goto (-131), 3) := by decide +kernel
theorem dL_asks_353 : decode cL_asks 353 = .ok (.iload_n 1, 1) := by decide +kernel
theorem dL_asks_354 : decode cL_asks 354 = .ok (.iconst 5, 1) := by decide +kernel
theorem dL_asks_355 : decode cL_asks 355 = .ok (.ishr, 1) := by decide +kernel
theorem dL_asks_356 : decode cL_asks 356 = .ok (.iconst 4, 1) := by decide +kernel
theorem dL_asks_357 : decode cL_asks 357 = .ok (.invokestatic 116, 3) := by decide +kernel
theorem dL_asks_360 : decode cL_asks 360 = .ok (.istore 13, 2) := by decide +kernel
theorem dL_asks_362 : decode cL_asks 362 = .ok (.iload_n 1, 1) := by decide +kernel
theorem dL_asks_363 : decode cL_asks 363 = .ok (.bipush 7, 2) := by decide +kernel
theorem dL_asks_365 : decode cL_asks 365 = .ok (.ishr, 1) := by decide +kernel
theorem dL_asks_366 : decode cL_asks 366 = .ok (.bipush 40, 2) := by decide +kernel
theorem dL_asks_368 : decode cL_asks 368 = .ok (.invokestatic 116, 3) := by decide +kernel
theorem dL_asks_371 : decode cL_asks 371 = .ok (.ifCond .ne 8, 3) := by decide +kernel
theorem dL_asks_374 : decode cL_asks 374 = .ok (.bipush 12, 2) := by decide +kernel
theorem dL_asks_376 : decode cL_asks 376 = .ok (.goto 11, 3) := by decide +kernel
theorem dL_asks_379 : decode cL_asks 379 = .ok (.iload_n 1, 1) := by decide +kernel
theorem dL_asks_380 : decode cL_asks 380 = .ok (.bipush 7, 2) := by decide +kernel
theorem dL_asks_382 : decode cL_asks 382 = .ok (.ishr, 1) := by decide +kernel
theorem dL_asks_383 : decode cL_asks 383 = .ok (.iconst 4, 1) := by decide +kernel
theorem dL_asks_384 : decode cL_asks 384 = .ok (.invokestatic 116, 3) := by decide +kernel
theorem dL_asks_387 : decode cL_asks 387 = .ok (.istore 14, 2) := by decide +kernel
theorem dL_asks_389 : decode cL_asks 389 = .ok (.iconst 0, 1) := by decide +kernel
theorem dL_asks_390 : decode cL_asks 390 = .ok (.istore 15, 2) := by decide +kernel
theorem dL_asks_392 : decode cL_asks 392 = .ok (.iconst 0, 1) := by decide +kernel
theorem dL_asks_393 : decode cL_asks 393 = .ok (.istore 16, 2) := by decide +kernel
theorem dL_asks_395 : decode cL_asks 395 = .ok (.iload_n 1, 1) := by decide +kernel
theorem dL_asks_396 : decode cL_asks 396 = .ok (.bipush 9, 2) := by decide +kernel
theorem dL_asks_398 : decode cL_asks 398 = .ok (.ishr, 1) := by decide +kernel
theorem dL_asks_399 : decode cL_asks 399 = .ok (.iconst 4, 1) := by decide +kernel
theorem dL_asks_400 : decode cL_asks 400 = .ok (.invokestatic 116, 3) := by decide +kernel
theorem dL_asks_403 : decode cL_asks 403 = .ok (.istore 17, 2) := by decide +kernel
theorem dL_asks_405 : decode cL_asks 405 = .ok (.sipush (-1001), 3) := by decide +kernel
theorem dL_asks_408 : decode cL_asks 408 = .ok (.istore 18, 2) := by decide +kernel
theorem dL_asks_410 : decode cL_asks 410 = .ok (.iconst 0, 1) := by decide +kernel
theorem dL_asks_411 : decode cL_asks 411 = .ok (.istore 19, 2) := by decide +kernel
theorem dL_asks_413 : decode cL_asks 413 = .ok (.iload 19, 2) := by decide +kernel
theorem dL_asks_415 : decode cL_asks 415 = .ok (.aload_n 2, 1) := by decide +kernel
theorem dL_asks_416 : decode cL_asks 416 = .ok (.iconst 1, 1) := by decide +kernel
theorem dL_asks_417 : decode cL_asks 417 = .ok (.iaload, 1) := by decide +kernel
theorem dL_asks_418 : decode cL_asks 418 = .ok (.if_icmp .ge 226, 3) := by decide +kernel
theorem dL_asks_421 : decode cL_asks 421 = .ok (.aload 4, 2) := by decide +kernel
theorem dL_asks_423 : decode cL_asks 423 = .ok (.bipush 30, 2) := by decide +kernel
theorem dL_asks_425 : decode cL_asks 425 = .ok (.iload 19, 2) := by decide +kernel
theorem dL_asks_427 : decode cL_asks 427 = .ok (.iadd, 1) := by decide +kernel
theorem dL_asks_428 : decode cL_asks 428 = .ok (.iaload, 1) := by decide +kernel
theorem dL_asks_429 : decode cL_asks 429 = .ok (.iload 13, 2) := by decide +kernel
theorem dL_asks_431 : decode cL_asks 431 = .ok (.if_icmp .ne 7, 3) := by decide +kernel
theorem dL_asks_434 : decode cL_asks 434 = .ok (.iconst 1, 1) := by decide +kernel
theorem dL_asks_435 : decode cL_asks 435 = .ok (.goto 4, 3) := by decide +kernel
theorem dL_asks_438 : decode cL_asks 438 = .ok (.iconst 0, 1) := by decide +kernel
theorem dL_asks_439 : decode cL_asks 439 = .ok (.istore 20, 2) := by decide +kernel
theorem dL_asks_441 : decode cL_asks 441 = .ok (.iconst 0, 1) := by decide +kernel
theorem dL_asks_442 : decode cL_asks 442 = .ok (.istore 21, 2) := by decide +kernel
theorem dL_asks_444 : decode cL_asks 444 = .ok (.iconst 0, 1) := by decide +kernel
theorem dL_asks_445 : decode cL_asks 445 = .ok (.istore 22, 2) := by decide +kernel
theorem dL_asks_447 : decode cL_asks 447 = .ok (.iload 22, 2) := by decide +kernel
theorem dL_asks_449 : decode cL_asks 449 = .ok (.aload_n 2, 1) := by decide +kernel
theorem dL_asks_450 : decode cL_asks 450 = .ok (.iconst 1, 1) := by decide +kernel
theorem dL_asks_451 : decode cL_asks 451 = .ok (.iaload, 1) := by decide +kernel
theorem dL_asks_452 : decode cL_asks 452 = .ok (.if_icmp .ge 49, 3) := by decide +kernel
theorem dL_asks_455 : decode cL_asks 455 = .ok (.iload 21, 2) := by decide +kernel
theorem dL_asks_457 : decode cL_asks 457 = .ok (.aload 4, 2) := by decide +kernel
theorem dL_asks_459 : decode cL_asks 459 = .ok (.bipush 30, 2) := by decide +kernel
theorem dL_asks_461 : decode cL_asks 461 = .ok (.iload 22, 2) := by decide +kernel
theorem dL_asks_463 : decode cL_asks 463 = .ok (.iadd, 1) := by decide +kernel
theorem dL_asks_464 : decode cL_asks 464 = .ok (.iaload, 1) := by decide +kernel
theorem dL_asks_465 : decode cL_asks 465 = .ok (.iload 13, 2) := by decide +kernel
theorem dL_asks_467 : decode cL_asks 467 = .ok (.if_icmp .ne 24, 3) := by decide +kernel
theorem dL_asks_470 : decode cL_asks 470 = .ok (.aload 4, 2) := by decide +kernel
theorem dL_asks_472 : decode cL_asks 472 = .ok (.iload 22, 2) := by decide +kernel
theorem dL_asks_474 : decode cL_asks 474 = .ok (.invokestatic 9, 3) := by decide +kernel
theorem dL_asks_477 : decode cL_asks 477 = .ok (.aload 4, 2) := by decide +kernel
theorem dL_asks_479 : decode cL_asks 479 = .ok (.iload 19, 2) := by decide +kernel
theorem dL_asks_481 : decode cL_asks 481 = .ok (.invokestatic 9, 3) := by decide +kernel
theorem dL_asks_484 : decode cL_asks 484 = .ok (.if_icmp .ge 7, 3) := by decide +kernel
theorem dL_asks_487 : decode cL_asks 487 = .ok (.iconst 1, 1) := by decide +kernel
theorem dL_asks_488 : decode cL_asks 488 = .ok (.goto 4, 3) := by decide +kernel
theorem dL_asks_491 : decode cL_asks 491 = .ok (.iconst 0, 1) := by decide +kernel
theorem dL_asks_492 : decode cL_asks 492 = .ok (.iadd, 1) := by decide +kernel
theorem dL_asks_493 : decode cL_asks 493 = .ok (.istore 21, 2) := by decide +kernel
theorem dL_asks_495 : decode cL_asks 495 = .ok (.iinc 22 1, 3) := by decide +kernel
theorem dL_asks_498 : decode cL_asks 498 = .ok (.goto (-51), 3) := by decide +kernel
theorem dL_asks_501 : decode cL_asks 501 = .ok (.iload 20, 2) := by decide +kernel
theorem dL_asks_503 : decode cL_asks 503 = .ok (.ifCond .eq 15, 3) := by decide +kernel
theorem dL_asks_506 : decode cL_asks 506 = .ok (.iload 21, 2) := by decide +kernel
theorem dL_asks_508 : decode cL_asks 508 = .ok (.iload 17, 2) := by decide +kernel
theorem dL_asks_510 : decode cL_asks 510 = .ok (.if_icmp .ne 8, 3) := by decide +kernel
theorem dL_asks_513 : decode cL_asks 513 = .ok (.iload 19, 2) := by decide +kernel
theorem dL_asks_515 : decode cL_asks 515 = .ok (.goto 5, 3) := by decide +kernel
theorem dL_asks_518 : decode cL_asks 518 = .ok (.iload 18, 2) := by decide +kernel
theorem dL_asks_520 : decode cL_asks 520 = .ok (.istore 18, 2) := by decide +kernel
theorem dL_asks_522 : decode cL_asks 522 = .ok (.iload 15, 2) := by decide +kernel
theorem dL_asks_524 : decode cL_asks 524 = .ok (.iload 20, 2) := by decide +kernel
theorem dL_asks_526 : decode cL_asks 526 = .ok (.ifCond .eq 44, 3) := by decide +kernel
theorem dL_asks_529 : decode cL_asks 529 = .ok (.aload 4, 2) := by decide +kernel
theorem dL_asks_531 : decode cL_asks 531 = .ok (.bipush 50, 2) := by decide +kernel
theorem dL_asks_533 : decode cL_asks 533 = .ok (.iload 19, 2) := by decide +kernel
theorem dL_asks_535 : decode cL_asks 535 = .ok (.iadd, 1) := by decide +kernel
theorem dL_asks_536 : decode cL_asks 536 = .ok (.iaload, 1) := by decide +kernel
theorem dL_asks_537 : decode cL_asks 537 = .ok (.aload_n 2, 1) := by decide +kernel
theorem dL_asks_538 : decode cL_asks 538 = .ok (.iconst 0, 1) := by decide +kernel
theorem dL_asks_539 : decode cL_asks 539 = .ok (.iaload, 1) := by decide +kernel
theorem dL_asks_540 : decode cL_asks 540 = .ok (.if_icmp .gt 30, 3) := by decide +kernel
theorem dL_asks_543 : decode cL_asks 543 = .ok (.aload 4, 2) := by decide +kernel
theorem dL_asks_545 : decode cL_asks 545 = .ok (.bipush 50, 2) := by decide +kernel
theorem dL_asks_547 : decode cL_asks 547 = .ok (.iload 19, 2) := by decide +kernel
theorem dL_asks_549 : decode cL_asks 549 = .ok (.iadd, 1) := by decide +kernel
theorem dL_asks_550 : decode cL_asks 550 = .ok (.iaload, 1) := by decide +kernel
theorem dL_asks_551 : decode cL_asks 551 = .ok (.aload 4, 2) := by decide +kernel
theorem dL_asks_553 : decode cL_asks 553 = .ok (.bipush 40, 2) := by decide +kernel
theorem dL_asks_555 : decode cL_asks 555 = .ok (.iload 19, 2) := by decide +kernel
theorem dL_asks_557 : decode cL_asks 557 = .ok (.iadd, 1) := by decide +kernel
theorem dL_asks_558 : decode cL_asks 558 = .ok (.iaload, 1) := by decide +kernel
theorem dL_asks_559 : decode cL_asks 559 = .ok (.isub, 1) := by decide +kernel
theorem dL_asks_560 : decode cL_asks 560 = .ok (.aload_n 3, 1) := by decide +kernel
theorem dL_asks_561 : decode cL_asks 561 = .ok (.iconst 4, 1) := by decide +kernel
theorem dL_asks_562 : decode cL_asks 562 = .ok (.iload 13, 2) := by decide +kernel
theorem dL_asks_564 : decode cL_asks 564 = .ok (.iadd, 1) := by decide +kernel
theorem dL_asks_565 : decode cL_asks 565 = .ok (.iaload, 1) := by decide +kernel
theorem dL_asks_566 : decode cL_asks 566 = .ok (.imul, 1) := by decide +kernel
theorem dL_asks_567 : decode cL_asks 567 = .ok (.goto 4, 3) := by decide +kernel
theorem dL_asks_570 : decode cL_asks 570 = .ok (.iconst 0, 1) := by decide +kernel
theorem dL_asks_571 : decode cL_asks 571 = .ok (.iadd, 1) := by decide +kernel
theorem dL_asks_572 : decode cL_asks 572 = .ok (.istore 15, 2) := by decide +kernel
theorem dL_asks_574 : decode cL_asks 574 = .ok (.iconst 0, 1) := by decide +kernel
theorem dL_asks_575 : decode cL_asks 575 = .ok (.istore 22, 2) := by decide +kernel
theorem dL_asks_577 : decode cL_asks 577 = .ok (.iload 22, 2) := by decide +kernel
theorem dL_asks_579 : decode cL_asks 579 = .ok (.aload_n 2, 1) := by decide +kernel
theorem dL_asks_580 : decode cL_asks 580 = .ok (.iconst 2, 1) := by decide +kernel
theorem dL_asks_581 : decode cL_asks 581 = .ok (.iaload, 1) := by decide +kernel
theorem dL_asks_582 : decode cL_asks 582 = .ok (.if_icmp .ge 56, 3) := by decide +kernel
theorem dL_asks_585 : decode cL_asks 585 = .ok (.iload 16, 2) := by decide +kernel
theorem dL_asks_587 : decode cL_asks 587 = .ok (.iload 20, 2) := by decide +kernel
theorem dL_asks_589 : decode cL_asks 589 = .ok (.ifCond .eq 39, 3) := by decide +kernel
theorem dL_asks_592 : decode cL_asks 592 = .ok (.aload 4, 2) := by decide +kernel
theorem dL_asks_594 : decode cL_asks 594 = .ok (.bipush 40, 2) := by decide +kernel
theorem dL_asks_596 : decode cL_asks 596 = .ok (.iload 19, 2) := by decide +kernel
theorem dL_asks_598 : decode cL_asks 598 = .ok (.iadd, 1) := by decide +kernel
theorem dL_asks_599 : decode cL_asks 599 = .ok (.iaload, 1) := by decide +kernel
theorem dL_asks_600 : decode cL_asks 600 = .ok (.sipush 168, 3) := by decide +kernel
theorem dL_asks_603 : decode cL_asks 603 = .ok (.idiv, 1) := by decide +kernel
theorem dL_asks_604 : decode cL_asks 604 = .ok (.iload 14, 2) := by decide +kernel
theorem dL_asks_606 : decode cL_asks 606 = .ok (.if_icmp .ne 22, 3) := by decide +kernel
theorem dL_asks_609 : decode cL_asks 609 = .ok (.aload_n 2, 1) := by decide +kernel
theorem dL_asks_610 : decode cL_asks 610 = .ok (.aload 4, 2) := by decide +kernel
theorem dL_asks_612 : decode cL_asks 612 = .ok (.aload 5, 2) := by decide +kernel
theorem dL_asks_614 : decode cL_asks 614 = .ok (.iload 19, 2) := by decide +kernel
theorem dL_asks_616 : decode cL_asks 616 = .ok (.iload 22, 2) := by decide +kernel
theorem dL_asks_618 : decode cL_asks 618 = .ok (.invokestatic 19, 3) := by decide +kernel
theorem dL_asks_621 : decode cL_asks 621 = .ok (.ifCond .eq 7, 3) := by decide +kernel
theorem dL_asks_624 : decode cL_asks 624 = .ok (.iconst 1, 1) := by decide +kernel
theorem dL_asks_625 : decode cL_asks 625 = .ok (.goto 4, 3) := by decide +kernel
theorem dL_asks_628 : decode cL_asks 628 = .ok (.iconst 0, 1) := by decide +kernel
theorem dL_asks_629 : decode cL_asks 629 = .ok (.iadd, 1) := by decide +kernel
theorem dL_asks_630 : decode cL_asks 630 = .ok (.istore 16, 2) := by decide +kernel
theorem dL_asks_632 : decode cL_asks 632 = .ok (.iinc 22 1, 3) := by decide +kernel
theorem dL_asks_635 : decode cL_asks 635 = .ok (.goto (-58), 3) := by decide +kernel
theorem dL_asks_638 : decode cL_asks 638 = .ok (.iinc 19 1, 3) := by decide +kernel
theorem dL_asks_641 : decode cL_asks 641 = .ok (.goto (-228), 3) := by decide +kernel
theorem dL_asks_644 : decode cL_asks 644 = .ok (.iconst 0, 1) := by decide +kernel
theorem dL_asks_645 : decode cL_asks 645 = .ok (.istore 19, 2) := by decide +kernel
theorem dL_asks_647 : decode cL_asks 647 = .ok (.iload 19, 2) := by decide +kernel
theorem dL_asks_649 : decode cL_asks 649 = .ok (.aload_n 2, 1) := by decide +kernel
theorem dL_asks_650 : decode cL_asks 650 = .ok (.iconst 3, 1) := by decide +kernel
theorem dL_asks_651 : decode cL_asks 651 = .ok (.iaload, 1) := by decide +kernel
theorem dL_asks_652 : decode cL_asks 652 = .ok (.if_icmp .ge 50, 3) := by decide +kernel
theorem dL_asks_655 : decode cL_asks 655 = .ok (.iload 15, 2) := by decide +kernel
theorem dL_asks_657 : decode cL_asks 657 = .ok (.aload 6, 2) := by decide +kernel
theorem dL_asks_659 : decode cL_asks 659 = .ok (.iload 19, 2) := by decide +kernel
theorem dL_asks_661 : decode cL_asks 661 = .ok (.iaload, 1) := by decide +kernel
theorem dL_asks_662 : decode cL_asks 662 = .ok (.sipush 10000, 3) := by decide +kernel
theorem dL_asks_665 : decode cL_asks 665 = .ok (.idiv, 1) := by decide +kernel
theorem dL_asks_666 : decode cL_asks 666 = .ok (.iload 13, 2) := by decide +kernel
theorem dL_asks_668 : decode cL_asks 668 = .ok (.if_icmp .ne 24, 3) := by decide +kernel
theorem dL_asks_671 : decode cL_asks 671 = .ok (.aload 7, 2) := by decide +kernel
theorem dL_asks_673 : decode cL_asks 673 = .ok (.iload 19, 2) := by decide +kernel
theorem dL_asks_675 : decode cL_asks 675 = .ok (.iaload, 1) := by decide +kernel
theorem dL_asks_676 : decode cL_asks 676 = .ok (.iconst 2, 1) := by decide +kernel
theorem dL_asks_677 : decode cL_asks 677 = .ok (.irem, 1) := by decide +kernel
theorem dL_asks_678 : decode cL_asks 678 = .ok (.iconst 1, 1) := by decide +kernel
theorem dL_asks_679 : decode cL_asks 679 = .ok (.if_icmp .ne 13, 3) := by decide +kernel
theorem dL_asks_682 : decode cL_asks 682 = .ok (.aload 7, 2) := by decide +kernel
theorem dL_asks_684 : decode cL_asks 684 = .ok (.iload 19, 2) := by decide +kernel
theorem dL_asks_686 : decode cL_asks 686 = .ok (.iaload, 1) := by decide +kernel
theorem dL_asks_687 : decode cL_asks 687 = .ok (.iconst 4, 1) := by decide +kernel
theorem dL_asks_688 : decode cL_asks 688 = .ok (.idiv, 1) := by decide +kernel
theorem dL_asks_689 : decode cL_asks 689 = .ok (.goto 4, 3) := by decide +kernel
theorem dL_asks_692 : decode cL_asks 692 = .ok (.iconst 0, 1) := by decide +kernel
theorem dL_asks_693 : decode cL_asks 693 = .ok (.iadd, 1) := by decide +kernel
theorem dL_asks_694 : decode cL_asks 694 = .ok (.istore 15, 2) := by decide +kernel
theorem dL_asks_696 : decode cL_asks 696 = .ok (.iinc 19 1, 3) := by decide +kernel
theorem dL_asks_699 : decode cL_asks 699 = .ok (.goto (-52), 3) := by decide +kernel
theorem dL_asks_702 : decode cL_asks 702 = .ok (.iload_n 1, 1) := by decide +kernel
theorem dL_asks_703 : decode cL_asks 703 = .ok (.bipush 6, 2) := by decide +kernel
theorem dL_asks_705 : decode cL_asks 705 = .ok (.ishr, 1) := by decide +kernel
theorem dL_asks_706 : decode cL_asks 706 = .ok (.aload_n 2, 1) := by decide +kernel
theorem dL_asks_707 : decode cL_asks 707 = .ok (.iconst 4, 1) := by decide +kernel
theorem dL_asks_708 : decode cL_asks 708 = .ok (.iaload, 1) := by decide +kernel
theorem dL_asks_709 : decode cL_asks 709 = .ok (.iconst 1, 1) := by decide +kernel
theorem dL_asks_710 : decode cL_asks 710 = .ok (.iadd, 1) := by decide +kernel
theorem dL_asks_711 : decode cL_asks 711 = .ok (.invokestatic 116, 3) := by decide +kernel
theorem dL_asks_714 : decode cL_asks 714 = .ok (.istore 19, 2) := by decide +kernel
theorem dL_asks_716 : decode cL_asks 716 = .ok (.aload_n 0, 1) := by decide +kernel
theorem dL_asks_717 : decode cL_asks 717 = .ok (.bipush 11, 2) := by decide +kernel
theorem dL_asks_719 : decode cL_asks 719 = .ok (.iload 13, 2) := by decide +kernel
theorem dL_asks_721 : decode cL_asks 721 = .ok (.invokestatic 158, 3) := by decide +kernel
theorem dL_asks_724 : decode cL_asks 724 = .ok (.iload 15, 2) := by decide +kernel
theorem dL_asks_726 : decode cL_asks 726 = .ok (.if_icmp .ne 107, 3) := by decide +kernel
theorem dL_asks_729 : decode cL_asks 729 = .ok (.aload_n 0, 1) := by decide +kernel
theorem dL_asks_730 : decode cL_asks 730 = .ok (.iconst 4, 1) := by decide +kernel
theorem dL_asks_731 : decode cL_asks 731 = .ok (.iload 13, 2) := by decide +kernel
theorem dL_asks_733 : decode cL_asks 733 = .ok (.iload 14, 2) := by decide +kernel
theorem dL_asks_735 : decode cL_asks 735 = .ok (.invokestatic 151, 3) := by decide +kernel
theorem dL_asks_738 : decode cL_asks 738 = .ok (.iload 14, 2) := by decide +kernel
theorem dL_asks_740 : decode cL_asks 740 = .ok (.bipush 11, 2) := by decide +kernel
theorem dL_asks_742 : decode cL_asks 742 = .ok (.if_icmp .le 9, 3) := by decide +kernel
theorem dL_asks_745 : decode cL_asks 745 = .ok (.sipush (-1002), 3) := by decide +kernel
theorem dL_asks_748 : decode cL_asks 748 = .ok (.goto 5, 3) := by decide +kernel
theorem dL_asks_751 : decode cL_asks 751 = .ok (.iload 16, 2) := by decide +kernel
theorem dL_asks_753 : decode cL_asks 753 = .ok (.if_icmp .ne 80, 3) := by decide +kernel
theorem dL_asks_756 : decode cL_asks 756 = .ok (.aload_n 0, 1) := by decide +kernel
theorem dL_asks_757 : decode cL_asks 757 = .ok (.iconst 2, 1) := by decide +kernel
theorem dL_asks_758 : decode cL_asks 758 = .ok (.iload 13, 2) := by decide +kernel
theorem dL_asks_760 : decode cL_asks 760 = .ok (.iload 17, 2) := by decide +kernel
theorem dL_asks_762 : decode cL_asks 762 = .ok (.invokestatic 151, 3) := by decide +kernel
theorem dL_asks_765 : decode cL_asks 765 = .ok (.iload 18, 2) := by decide +kernel
theorem dL_asks_767 : decode cL_asks 767 = .ok (.if_icmp .ne 66, 3) := by decide +kernel
theorem dL_asks_770 : decode cL_asks 770 = .ok (.aload_n 0, 1) := by decide +kernel
theorem dL_asks_771 : decode cL_asks 771 = .ok (.iconst 5, 1) := by decide +kernel
theorem dL_asks_772 : decode cL_asks 772 = .ok (.iload 19, 2) := by decide +kernel
theorem dL_asks_774 : decode cL_asks 774 = .ok (.invokestatic 158, 3) := by decide +kernel
theorem dL_asks_777 : decode cL_asks 777 = .ok (.iload 19, 2) := by decide +kernel
theorem dL_asks_779 : decode cL_asks 779 = .ok (.aload_n 2, 1) := by decide +kernel
theorem dL_asks_780 : decode cL_asks 780 = .ok (.iconst 4, 1) := by decide +kernel
theorem dL_asks_781 : decode cL_asks 781 = .ok (.iaload, 1) := by decide +kernel
theorem dL_asks_782 : decode cL_asks 782 = .ok (.if_icmp .ge 18, 3) := by decide +kernel
theorem dL_asks_785 : decode cL_asks 785 = .ok (.aload_n 2, 1) := by decide +kernel
theorem dL_asks_786 : decode cL_asks 786 = .ok (.aload 4, 2) := by decide +kernel
theorem dL_asks_788 : decode cL_asks 788 = .ok (.aload 8, 2) := by decide +kernel
theorem dL_asks_790 : decode cL_asks 790 = .ok (.aload 9, 2) := by decide +kernel
theorem dL_asks_792 : decode cL_asks 792 = .ok (.iload 19, 2) := by decide +kernel
theorem dL_asks_794 : decode cL_asks 794 = .ok (.invokestatic 169, 3) := by decide +kernel
theorem dL_asks_797 : decode cL_asks 797 = .ok (.goto 6, 3) := by decide +kernel
theorem dL_asks_800 : decode cL_asks 800 = .ok (.sipush (-1001), 3) := by decide +kernel
theorem dL_asks_803 : decode cL_asks 803 = .ok (.if_icmp .ne 30, 3) := by decide +kernel
theorem dL_asks_806 : decode cL_asks 806 = .ok (.aload_n 0, 1) := by decide +kernel
theorem dL_asks_807 : decode cL_asks 807 = .ok (.invokevirtual 172, 3) := by decide +kernel
theorem dL_asks_810 : decode cL_asks 810 = .ok (.aload_n 2, 1) := by decide +kernel
theorem dL_asks_811 : decode cL_asks 811 = .ok (.aload 8, 2) := by decide +kernel
theorem dL_asks_813 : decode cL_asks 813 = .ok (.invokestatic 165, 3) := by decide +kernel
theorem dL_asks_816 : decode cL_asks 816 = .ok (.if_icmp .ne 17, 3) := by decide +kernel
theorem dL_asks_819 : decode cL_asks 819 = .ok (.aload_n 0, 1) := by decide +kernel
theorem dL_asks_820 : decode cL_asks 820 = .ok (.invokevirtual 175, 3) := by decide +kernel
theorem dL_asks_823 : decode cL_asks 823 = .ok (.aload_n 2, 1) := by decide +kernel
theorem dL_asks_824 : decode cL_asks 824 = .ok (.iconst 3, 1) := by decide +kernel
theorem dL_asks_825 : decode cL_asks 825 = .ok (.iaload, 1) := by decide +kernel
theorem dL_asks_826 : decode cL_asks 826 = .ok (.if_icmp .ne 7, 3) := by decide +kernel
theorem dL_asks_829 : decode cL_asks 829 = .ok (.iconst 1, 1) := by decide +kernel
theorem dL_asks_830 : decode cL_asks 830 = .ok (.goto 4, 3) := by decide +kernel
theorem dL_asks_833 : decode cL_asks 833 = .ok (.iconst 0, 1) := by decide +kernel
theorem dL_asks_834 : decode cL_asks 834 = .ok (.ireturn, 1) := by decide +kernel
theorem dL_law_0 : decode cL_law 0 = .ok (.new 24, 3) := by decide +kernel
theorem dL_law_3 : decode cL_law 3 = .ok (.dup, 1) := by decide +kernel
theorem dL_law_4 : decode cL_law 4 = .ok (.invokespecial 178, 3) := by decide +kernel
theorem dL_law_7 : decode cL_law 7 = .ok (.astore_n 1, 1) := by decide +kernel
theorem dL_law_8 : decode cL_law 8 = .ok (.iconst 5, 1) := by decide +kernel
theorem dL_law_9 : decode cL_law 9 = .ok (.newarray .int, 2) := by decide +kernel
theorem dL_law_11 : decode cL_law 11 = .ok (.astore_n 2, 1) := by decide +kernel
theorem dL_law_12 : decode cL_law 12 = .ok (.bipush 8, 2) := by decide +kernel
theorem dL_law_14 : decode cL_law 14 = .ok (.newarray .int, 2) := by decide +kernel
theorem dL_law_16 : decode cL_law 16 = .ok (.astore_n 3, 1) := by decide +kernel
theorem dL_law_17 : decode cL_law 17 = .ok (.bipush 60, 2) := by decide +kernel
theorem dL_law_19 : decode cL_law 19 = .ok (.newarray .int, 2) := by decide +kernel
theorem dL_law_21 : decode cL_law 21 = .ok (.astore 4, 2) := by decide +kernel
theorem dL_law_23 : decode cL_law 23 = .ok (.bipush 20, 2) := by decide +kernel
theorem dL_law_25 : decode cL_law 25 = .ok (.newarray .int, 2) := by decide +kernel
theorem dL_law_27 : decode cL_law 27 = .ok (.astore 5, 2) := by decide +kernel
theorem dL_law_29 : decode cL_law 29 = .ok (.bipush 64, 2) := by decide +kernel
theorem dL_law_31 : decode cL_law 31 = .ok (.newarray .int, 2) := by decide +kernel
theorem dL_law_33 : decode cL_law 33 = .ok (.astore 6, 2) := by decide +kernel
theorem dL_law_35 : decode cL_law 35 = .ok (.bipush 64, 2) := by decide +kernel
theorem dL_law_37 : decode cL_law 37 = .ok (.newarray .int, 2) := by decide +kernel
theorem dL_law_39 : decode cL_law 39 = .ok (.astore 7, 2) := by decide +kernel
theorem dL_law_41 : decode cL_law 41 = .ok (.bipush 36, 2) := by decide +kernel
theorem dL_law_43 : decode cL_law 43 = .ok (.newarray .int, 2) := by decide +kernel
theorem dL_law_45 : decode cL_law 45 = .ok (.astore 8, 2) := by decide +kernel
theorem dL_law_47 : decode cL_law 47 = .ok (.iconst 0, 1) := by decide +kernel
theorem dL_law_48 : decode cL_law 48 = .ok (.istore 9, 2) := by decide +kernel
theorem dL_law_50 : decode cL_law 50 = .ok (.iload 9, 2) := by decide +kernel
theorem dL_law_52 : decode cL_law 52 = .ok (.iconst 4, 1) := by decide +kernel
theorem dL_law_53 : decode cL_law 53 = .ok (.if_icmp .ge 41, 3) := by decide +kernel
theorem dL_law_56 : decode cL_law 56 = .ok (.aload_n 3, 1) := by decide +kernel
theorem dL_law_57 : decode cL_law 57 = .ok (.iload 9, 2) := by decide +kernel
theorem dL_law_59 : decode cL_law 59 = .ok (.bipush 15, 2) := by decide +kernel
theorem dL_law_61 : decode cL_law 61 = .ok (.iastore, 1) := by decide +kernel
theorem dL_law_62 : decode cL_law 62 = .ok (.aload_n 3, 1) := by decide +kernel
theorem dL_law_63 : decode cL_law 63 = .ok (.iconst 4, 1) := by decide +kernel
theorem dL_law_64 : decode cL_law 64 = .ok (.iload 9, 2) := by decide +kernel
theorem dL_law_66 : decode cL_law 66 = .ok (.iadd, 1) := by decide +kernel
theorem dL_law_67 : decode cL_law 67 = .ok (.bipush 10, 2) := by decide +kernel
theorem dL_law_69 : decode cL_law 69 = .ok (.iastore, 1) := by decide +kernel
theorem dL_law_70 : decode cL_law 70 = .ok (.aload_n 1, 1) := by decide +kernel
theorem dL_law_71 : decode cL_law 71 = .ok (.iconst 0, 1) := by decide +kernel
theorem dL_law_72 : decode cL_law 72 = .ok (.iload 9, 2) := by decide +kernel
theorem dL_law_74 : decode cL_law 74 = .ok (.bipush 15, 2) := by decide +kernel
theorem dL_law_76 : decode cL_law 76 = .ok (.bipush 10, 2) := by decide +kernel
theorem dL_law_78 : decode cL_law 78 = .ok (.invokestatic 140, 3) := by decide +kernel
theorem dL_law_81 : decode cL_law 81 = .ok (.bipush 10, 2) := by decide +kernel
theorem dL_law_83 : decode cL_law 83 = .ok (.if_icmp .eq 5, 3) := by decide +kernel
theorem dL_law_86 : decode cL_law 86 = .ok (.iconst 0, 1) := by decide +kernel
theorem dL_law_87 : decode cL_law 87 = .ok (.ireturn, 1) := by decide +kernel
theorem dL_law_88 : decode cL_law 88 = .ok (.iinc 9 1, 3) := by decide +kernel
theorem dL_law_91 : decode cL_law 91 = .ok (.goto (-41), 3) := by decide +kernel
theorem dL_law_94 : decode cL_law 94 = .ok (.iconst 0, 1) := by decide +kernel
theorem dL_law_95 : decode cL_law 95 = .ok (.istore 9, 2) := by decide +kernel
theorem dL_law_97 : decode cL_law 97 = .ok (.iload 9, 2) := by decide +kernel
theorem dL_law_99 : decode cL_law 99 = .ok (.bipush 90, 2) := by decide +kernel
theorem dL_law_101 : decode cL_law 101 = .ok (.if_icmp .ge 459, 3) := by decide +kernel
theorem dL_law_104 : decode cL_law 104 = .ok (.aload_n 2, 1) := by decide +kernel
theorem dL_law_105 : decode cL_law 105 = .ok (.iconst 3, 1) := by decide +kernel
theorem dL_law_106 : decode cL_law 106 = .ok (.iaload, 1) := by decide +kernel
theorem dL_law_107 : decode cL_law 107 = .ok (.bipush 24, 2) := by decide +kernel
theorem dL_law_109 : decode cL_law 109 = .ok (.if_icmp .ge 451, 3) := by decide +kernel
theorem dL_law_112 : decode cL_law 112 = .ok (.aload_n 0, 1) := by decide +kernel
theorem dL_law_113 : decode cL_law 113 = .ok (.iload 9, 2) := by decide +kernel
theorem dL_law_115 : decode cL_law 115 = .ok (.bipush 83, 2) := by decide +kernel
theorem dL_law_117 : decode cL_law 117 = .ok (.irem, 1) := by decide +kernel
theorem dL_law_118 : decode cL_law 118 = .ok (.invokestatic 179, 3) := by decide +kernel
theorem dL_law_121 : decode cL_law 121 = .ok (.iload 9, 2) := by decide +kernel
theorem dL_law_123 : decode cL_law 123 = .ok (.ldc 182, 2) := by decide +kernel
theorem dL_law_125 : decode cL_law 125 = .ok (.imul, 1) := by decide +kernel
theorem dL_law_126 : decode cL_law 126 = .ok (.ixor, 1) := by decide +kernel
theorem dL_law_127 : decode cL_law 127 = .ok (.istore 10, 2) := by decide +kernel
theorem dL_law_129 : decode cL_law 129 = .ok (.iload 10, 2) := by decide +kernel
theorem dL_law_131 : decode cL_law 131 = .ok (.iconst 4, 1) := by decide +kernel
theorem dL_law_132 : decode cL_law 132 = .ok (.ishr, 1) := by decide +kernel
theorem dL_law_133 : decode cL_law 133 = .ok (.istore 11, 2) := by decide +kernel
theorem dL_law_135 : decode cL_law 135 = .ok (.iload 10, 2) := by decide +kernel
theorem dL_law_137 : decode cL_law 137 = .ok (.bipush 40, 2) := by decide +kernel
theorem dL_law_139 : decode cL_law 139 = .ok (.invokestatic 116, 3) := by decide +kernel
theorem dL_law_142 : decode cL_law 142 = .ok (.istore 12, 2) := by decide +kernel
theorem dL_law_144 : decode cL_law 144 = .ok (.iload 9, 2) := by decide +kernel
theorem dL_law_146 : decode cL_law 146 = .ok (.bipush 6, 2) := by decide +kernel
theorem dL_law_148 : decode cL_law 148 = .ok (.if_icmp .ge 25, 3) := by decide +kernel
theorem dL_law_151 : decode cL_law 151 = .ok (.aload_n 1, 1) := by decide +kernel
theorem dL_law_152 : decode cL_law 152 = .ok (.iconst 1, 1) := by decide +kernel
theorem dL_law_153 : decode cL_law 153 = .ok (.iload 11, 2) := by decide +kernel
theorem dL_law_155 : decode cL_law 155 = .ok (.aload_n 2, 1) := by decide +kernel
theorem dL_law_156 : decode cL_law 156 = .ok (.aload_n 3, 1) := by decide +kernel
theorem dL_law_157 : decode cL_law 157 = .ok (.aload 4, 2) := by decide +kernel
theorem dL_law_159 : decode cL_law 159 = .ok (.aload 5, 2) := by decide +kernel
theorem dL_law_161 : decode cL_law 161 = .ok (.aload 6, 2) := by decide +kernel
theorem dL_law_163 : decode cL_law 163 = .ok (.aload 7, 2) := by decide +kernel
theorem dL_law_165 : decode cL_law 165 = .ok (.aload 8, 2) := by decide +kernel
theorem dL_law_167 : decode cL_law 167 = .ok (.invokestatic 183, 3) := by decide +kernel
theorem dL_law_170 : decode cL_law 170 = .ok (.goto 354, 3) := by decide +kernel
theorem dL_law_173 : decode cL_law 173 = .ok (.iload 9, 2) := by decide +kernel
theorem dL_law_175 : decode cL_law 175 = .ok (.bipush 9, 2) := by decide +kernel
theorem dL_law_177 : decode cL_law 177 = .ok (.if_icmp .ge 21, 3) := by decide +kernel
theorem dL_law_180 : decode cL_law 180 = .ok (.aload_n 1, 1) := by decide +kernel
theorem dL_law_181 : decode cL_law 181 = .ok (.iload 11, 2) := by decide +kernel
theorem dL_law_183 : decode cL_law 183 = .ok (.aload_n 2, 1) := by decide +kernel
theorem dL_law_184 : decode cL_law 184 = .ok (.aload 4, 2) := by decide +kernel
theorem dL_law_186 : decode cL_law 186 = .ok (.aload 5, 2) := by decide +kernel
theorem dL_law_188 : decode cL_law 188 = .ok (.aload 6, 2) := by decide +kernel
theorem dL_law_190 : decode cL_law 190 = .ok (.aload 7, 2) := by decide +kernel
theorem dL_law_192 : decode cL_law 192 = .ok (.invokestatic 187, 3) := by decide +kernel
theorem dL_law_195 : decode cL_law 195 = .ok (.goto 329, 3) := by decide +kernel
theorem dL_law_198 : decode cL_law 198 = .ok (.iload 12, 2) := by decide +kernel
theorem dL_law_200 : decode cL_law 200 = .ok (.iconst 2, 1) := by decide +kernel
theorem dL_law_201 : decode cL_law 201 = .ok (.if_icmp .ge 25, 3) := by decide +kernel
theorem dL_law_204 : decode cL_law 204 = .ok (.aload_n 1, 1) := by decide +kernel
theorem dL_law_205 : decode cL_law 205 = .ok (.iconst 0, 1) := by decide +kernel
theorem dL_law_206 : decode cL_law 206 = .ok (.iload 11, 2) := by decide +kernel
theorem dL_law_208 : decode cL_law 208 = .ok (.aload_n 2, 1) := by decide +kernel
theorem dL_law_209 : decode cL_law 209 = .ok (.aload_n 3, 1) := by decide +kernel
theorem dL_law_210 : decode cL_law 210 = .ok (.aload 4, 2) := by decide +kernel
theorem dL_law_212 : decode cL_law 212 = .ok (.aload 5, 2) := by decide +kernel
theorem dL_law_214 : decode cL_law 214 = .ok (.aload 6, 2) := by decide +kernel
theorem dL_law_216 : decode cL_law 216 = .ok (.aload 7, 2) := by decide +kernel
theorem dL_law_218 : decode cL_law 218 = .ok (.aload 8, 2) := by decide +kernel
theorem dL_law_220 : decode cL_law 220 = .ok (.invokestatic 183, 3) := by decide +kernel
theorem dL_law_223 : decode cL_law 223 = .ok (.goto 301, 3) := by decide +kernel
theorem dL_law_226 : decode cL_law 226 = .ok (.iload 12, 2) := by decide +kernel
theorem dL_law_228 : decode cL_law 228 = .ok (.iconst 4, 1) := by decide +kernel
theorem dL_law_229 : decode cL_law 229 = .ok (.if_icmp .ge 25, 3) := by decide +kernel
theorem dL_law_232 : decode cL_law 232 = .ok (.aload_n 1, 1) := by decide +kernel
theorem dL_law_233 : decode cL_law 233 = .ok (.iconst 1, 1) := by decide +kernel
theorem dL_law_234 : decode cL_law 234 = .ok (.iload 11, 2) := by decide +kernel
theorem dL_law_236 : decode cL_law 236 = .ok (.aload_n 2, 1) := by decide +kernel
theorem dL_law_237 : decode cL_law 237 = .ok (.aload_n 3, 1) := by decide +kernel
theorem dL_law_238 : decode cL_law 238 = .ok (.aload 4, 2) := by decide +kernel
theorem dL_law_240 : decode cL_law 240 = .ok (.aload 5, 2) := by decide +kernel
theorem dL_law_242 : decode cL_law 242 = .ok (.aload 6, 2) := by decide +kernel
theorem dL_law_244 : decode cL_law 244 = .ok (.aload 7, 2) := by decide +kernel
theorem dL_law_246 : decode cL_law 246 = .ok (.aload 8, 2) := by decide +kernel
theorem dL_law_248 : decode cL_law 248 = .ok (.invokestatic 183, 3) := by decide +kernel
theorem dL_law_251 : decode cL_law 251 = .ok (.goto 273, 3) := by decide +kernel
theorem dL_law_254 : decode cL_law 254 = .ok (.iload 12, 2) := by decide +kernel
theorem dL_law_256 : decode cL_law 256 = .ok (.bipush 14, 2) := by decide +kernel
theorem dL_law_258 : decode cL_law 258 = .ok (.if_icmp .ge 25, 3) := by decide +kernel
theorem dL_law_261 : decode cL_law 261 = .ok (.aload_n 1, 1) := by decide +kernel
theorem dL_law_262 : decode cL_law 262 = .ok (.iconst 2, 1) := by decide +kernel
theorem dL_law_263 : decode cL_law 263 = .ok (.iload 11, 2) := by decide +kernel
theorem dL_law_265 : decode cL_law 265 = .ok (.aload_n 2, 1) := by decide +kernel
theorem dL_law_266 : decode cL_law 266 = .ok (.aload_n 3, 1) := by decide +kernel
theorem dL_law_267 : decode cL_law 267 = .ok (.aload 4, 2) := by decide +kernel
theorem dL_law_269 : decode cL_law 269 = .ok (.aload 5, 2) := by decide +kernel
theorem dL_law_271 : decode cL_law 271 = .ok (.aload 6, 2) := by decide +kernel
theorem dL_law_273 : decode cL_law 273 = .ok (.aload 7, 2) := by decide +kernel
theorem dL_law_275 : decode cL_law 275 = .ok (.aload 8, 2) := by decide +kernel
theorem dL_law_277 : decode cL_law 277 = .ok (.invokestatic 183, 3) := by decide +kernel
theorem dL_law_280 : decode cL_law 280 = .ok (.goto 244, 3) := by decide +kernel
theorem dL_law_283 : decode cL_law 283 = .ok (.iload 12, 2) := by decide +kernel
theorem dL_law_285 : decode cL_law 285 = .ok (.bipush 19, 2) := by decide +kernel
theorem dL_law_287 : decode cL_law 287 = .ok (.if_icmp .ge 25, 3) := by decide +kernel
theorem dL_law_290 : decode cL_law 290 = .ok (.aload_n 1, 1) := by decide +kernel
theorem dL_law_291 : decode cL_law 291 = .ok (.iconst 3, 1) := by decide +kernel
theorem dL_law_292 : decode cL_law 292 = .ok (.iload 11, 2) := by decide +kernel
theorem dL_law_294 : decode cL_law 294 = .ok (.aload_n 2, 1) := by decide +kernel
theorem dL_law_295 : decode cL_law 295 = .ok (.aload_n 3, 1) := by decide +kernel
theorem dL_law_296 : decode cL_law 296 = .ok (.aload 4, 2) := by decide +kernel
theorem dL_law_298 : decode cL_law 298 = .ok (.aload 5, 2) := by decide +kernel
theorem dL_law_300 : decode cL_law 300 = .ok (.aload 6, 2) := by decide +kernel
theorem dL_law_302 : decode cL_law 302 = .ok (.aload 7, 2) := by decide +kernel
theorem dL_law_304 : decode cL_law 304 = .ok (.aload 8, 2) := by decide +kernel
theorem dL_law_306 : decode cL_law 306 = .ok (.invokestatic 183, 3) := by decide +kernel
theorem dL_law_309 : decode cL_law 309 = .ok (.goto 215, 3) := by decide +kernel
theorem dL_law_312 : decode cL_law 312 = .ok (.iload 12, 2) := by decide +kernel
theorem dL_law_314 : decode cL_law 314 = .ok (.bipush 23, 2) := by decide +kernel
theorem dL_law_316 : decode cL_law 316 = .ok (.if_icmp .ge 25, 3) := by decide +kernel
theorem dL_law_319 : decode cL_law 319 = .ok (.aload_n 1, 1) := by decide +kernel
theorem dL_law_320 : decode cL_law 320 = .ok (.iconst 4, 1) := by decide +kernel
theorem dL_law_321 : decode cL_law 321 = .ok (.iload 11, 2) := by decide +kernel
theorem dL_law_323 : decode cL_law 323 = .ok (.aload_n 2, 1) := by decide +kernel
theorem dL_law_324 : decode cL_law 324 = .ok (.aload_n 3, 1) := by decide +kernel
theorem dL_law_325 : decode cL_law 325 = .ok (.aload 4, 2) := by decide +kernel
theorem dL_law_327 : decode cL_law 327 = .ok (.aload 5, 2) := by decide +kernel
theorem dL_law_329 : decode cL_law 329 = .ok (.aload 6, 2) := by decide +kernel
theorem dL_law_331 : decode cL_law 331 = .ok (.aload 7, 2) := by decide +kernel
theorem dL_law_333 : decode cL_law 333 = .ok (.aload 8, 2) := by decide +kernel
theorem dL_law_335 : decode cL_law 335 = .ok (.invokestatic 183, 3) := by decide +kernel
theorem dL_law_338 : decode cL_law 338 = .ok (.goto 186, 3) := by decide +kernel
theorem dL_law_341 : decode cL_law 341 = .ok (.iload 12, 2) := by decide +kernel
theorem dL_law_343 : decode cL_law 343 = .ok (.bipush 25, 2) := by decide +kernel
theorem dL_law_345 : decode cL_law 345 = .ok (.if_icmp .ge 21, 3) := by decide +kernel
theorem dL_law_348 : decode cL_law 348 = .ok (.aload_n 1, 1) := by decide +kernel
theorem dL_law_349 : decode cL_law 349 = .ok (.iload 11, 2) := by decide +kernel
theorem dL_law_351 : decode cL_law 351 = .ok (.aload_n 2, 1) := by decide +kernel
theorem dL_law_352 : decode cL_law 352 = .ok (.aload 4, 2) := by decide +kernel
theorem dL_law_354 : decode cL_law 354 = .ok (.aload 5, 2) := by decide +kernel
theorem dL_law_356 : decode cL_law 356 = .ok (.aload 6, 2) := by decide +kernel
theorem dL_law_358 : decode cL_law 358 = .ok (.aload 7, 2) := by decide +kernel
theorem dL_law_360 : decode cL_law 360 = .ok (.invokestatic 187, 3) := by decide +kernel
theorem dL_law_363 : decode cL_law 363 = .ok (.goto 161, 3) := by decide +kernel
theorem dL_law_366 : decode cL_law 366 = .ok (.iload 12, 2) := by decide +kernel
theorem dL_law_368 : decode cL_law 368 = .ok (.bipush 26, 2) := by decide +kernel
theorem dL_law_370 : decode cL_law 370 = .ok (.if_icmp .ge 23, 3) := by decide +kernel
theorem dL_law_373 : decode cL_law 373 = .ok (.aload_n 1, 1) := by decide +kernel
theorem dL_law_374 : decode cL_law 374 = .ok (.iconst 0, 1) := by decide +kernel
theorem dL_law_375 : decode cL_law 375 = .ok (.iload 11, 2) := by decide +kernel
theorem dL_law_377 : decode cL_law 377 = .ok (.aload_n 2, 1) := by decide +kernel
theorem dL_law_378 : decode cL_law 378 = .ok (.aload_n 3, 1) := by decide +kernel
theorem dL_law_379 : decode cL_law 379 = .ok (.aload 4, 2) := by decide +kernel
theorem dL_law_381 : decode cL_law 381 = .ok (.aload 5, 2) := by decide +kernel
theorem dL_law_383 : decode cL_law 383 = .ok (.aload 6, 2) := by decide +kernel
theorem dL_law_385 : decode cL_law 385 = .ok (.aload 7, 2) := by decide +kernel
theorem dL_law_387 : decode cL_law 387 = .ok (.invokestatic 191, 3) := by decide +kernel
theorem dL_law_390 : decode cL_law 390 = .ok (.goto 134, 3) := by decide +kernel
theorem dL_law_393 : decode cL_law 393 = .ok (.iload 12, 2) := by decide +kernel
theorem dL_law_395 : decode cL_law 395 = .ok (.bipush 29, 2) := by decide +kernel
theorem dL_law_397 : decode cL_law 397 = .ok (.if_icmp .ge 23, 3) := by decide +kernel
theorem dL_law_400 : decode cL_law 400 = .ok (.aload_n 1, 1) := by decide +kernel
theorem dL_law_401 : decode cL_law 401 = .ok (.iconst 1, 1) := by decide +kernel
theorem dL_law_402 : decode cL_law 402 = .ok (.iload 11, 2) := by decide +kernel
theorem dL_law_404 : decode cL_law 404 = .ok (.aload_n 2, 1) := by decide +kernel
theorem dL_law_405 : decode cL_law 405 = .ok (.aload_n 3, 1) := by decide +kernel
theorem dL_law_406 : decode cL_law 406 = .ok (.aload 4, 2) := by decide +kernel
theorem dL_law_408 : decode cL_law 408 = .ok (.aload 5, 2) := by decide +kernel
theorem dL_law_410 : decode cL_law 410 = .ok (.aload 6, 2) := by decide +kernel
theorem dL_law_412 : decode cL_law 412 = .ok (.aload 7, 2) := by decide +kernel
theorem dL_law_414 : decode cL_law 414 = .ok (.invokestatic 191, 3) := by decide +kernel
theorem dL_law_417 : decode cL_law 417 = .ok (.goto 107, 3) := by decide +kernel
theorem dL_law_420 : decode cL_law 420 = .ok (.iload 12, 2) := by decide +kernel
theorem dL_law_422 : decode cL_law 422 = .ok (.bipush 31, 2) := by decide +kernel
theorem dL_law_424 : decode cL_law 424 = .ok (.if_icmp .ge 23, 3) := by decide +kernel
theorem dL_law_427 : decode cL_law 427 = .ok (.aload_n 1, 1) := by decide +kernel
theorem dL_law_428 : decode cL_law 428 = .ok (.iconst 2, 1) := by decide +kernel
theorem dL_law_429 : decode cL_law 429 = .ok (.iload 11, 2) := by decide +kernel
theorem dL_law_431 : decode cL_law 431 = .ok (.aload_n 2, 1) := by decide +kernel
theorem dL_law_432 : decode cL_law 432 = .ok (.aload_n 3, 1) := by decide +kernel
theorem dL_law_433 : decode cL_law 433 = .ok (.aload 4, 2) := by decide +kernel
theorem dL_law_435 : decode cL_law 435 = .ok (.aload 5, 2) := by decide +kernel
theorem dL_law_437 : decode cL_law 437 = .ok (.aload 6, 2) := by decide +kernel
theorem dL_law_439 : decode cL_law 439 = .ok (.aload 7, 2) := by decide +kernel
theorem dL_law_441 : decode cL_law 441 = .ok (.invokestatic 191, 3) := by decide +kernel
theorem dL_law_444 : decode cL_law 444 = .ok (.goto 80, 3) := by decide +kernel
theorem dL_law_447 : decode cL_law 447 = .ok (.iload 12, 2) := by decide +kernel
theorem dL_law_449 : decode cL_law 449 = .ok (.bipush 35, 2) := by decide +kernel
theorem dL_law_451 : decode cL_law 451 = .ok (.if_icmp .ge 25, 3) := by decide +kernel
theorem dL_law_454 : decode cL_law 454 = .ok (.aload_n 1, 1) := by decide +kernel
theorem dL_law_455 : decode cL_law 455 = .ok (.iconst 0, 1) := by decide +kernel
theorem dL_law_456 : decode cL_law 456 = .ok (.iload 11, 2) := by decide +kernel
theorem dL_law_458 : decode cL_law 458 = .ok (.aload_n 2, 1) := by decide +kernel
theorem dL_law_459 : decode cL_law 459 = .ok (.aload_n 3, 1) := by decide +kernel
theorem dL_law_460 : decode cL_law 460 = .ok (.aload 4, 2) := by decide +kernel
theorem dL_law_462 : decode cL_law 462 = .ok (.aload 5, 2) := by decide +kernel
theorem dL_law_464 : decode cL_law 464 = .ok (.aload 6, 2) := by decide +kernel
theorem dL_law_466 : decode cL_law 466 = .ok (.aload 7, 2) := by decide +kernel
theorem dL_law_468 : decode cL_law 468 = .ok (.aload 8, 2) := by decide +kernel
theorem dL_law_470 : decode cL_law 470 = .ok (.invokestatic 194, 3) := by decide +kernel
theorem dL_law_473 : decode cL_law 473 = .ok (.goto 51, 3) := by decide +kernel
theorem dL_law_476 : decode cL_law 476 = .ok (.iload 12, 2) := by decide +kernel
theorem dL_law_478 : decode cL_law 478 = .ok (.bipush 36, 2) := by decide +kernel
theorem dL_law_480 : decode cL_law 480 = .ok (.if_icmp .ge 25, 3) := by decide +kernel
theorem dL_law_483 : decode cL_law 483 = .ok (.aload_n 1, 1) := by decide +kernel
theorem dL_law_484 : decode cL_law 484 = .ok (.iconst 1, 1) := by decide +kernel
theorem dL_law_485 : decode cL_law 485 = .ok (.iload 11, 2) := by decide +kernel
theorem dL_law_487 : decode cL_law 487 = .ok (.aload_n 2, 1) := by decide +kernel
theorem dL_law_488 : decode cL_law 488 = .ok (.aload_n 3, 1) := by decide +kernel
theorem dL_law_489 : decode cL_law 489 = .ok (.aload 4, 2) := by decide +kernel
theorem dL_law_491 : decode cL_law 491 = .ok (.aload 5, 2) := by decide +kernel
theorem dL_law_493 : decode cL_law 493 = .ok (.aload 6, 2) := by decide +kernel
theorem dL_law_495 : decode cL_law 495 = .ok (.aload 7, 2) := by decide +kernel
theorem dL_law_497 : decode cL_law 497 = .ok (.aload 8, 2) := by decide +kernel
theorem dL_law_499 : decode cL_law 499 = .ok (.invokestatic 194, 3) := by decide +kernel
theorem dL_law_502 : decode cL_law 502 = .ok (.goto 22, 3) := by decide +kernel
theorem dL_law_505 : decode cL_law 505 = .ok (.aload_n 1, 1) := by decide +kernel
theorem dL_law_506 : decode cL_law 506 = .ok (.iconst 2, 1) := by decide +kernel
theorem dL_law_507 : decode cL_law 507 = .ok (.iload 11, 2) := by decide +kernel
theorem dL_law_509 : decode cL_law 509 = .ok (.aload_n 2, 1) := by decide +kernel
theorem dL_law_510 : decode cL_law 510 = .ok (.aload_n 3, 1) := by decide +kernel
theorem dL_law_511 : decode cL_law 511 = .ok (.aload 4, 2) := by decide +kernel
theorem dL_law_513 : decode cL_law 513 = .ok (.aload 5, 2) := by decide +kernel
theorem dL_law_515 : decode cL_law 515 = .ok (.aload 6, 2) := by decide +kernel
theorem dL_law_517 : decode cL_law 517 = .ok (.aload 7, 2) := by decide +kernel
theorem dL_law_519 : decode cL_law 519 = .ok (.aload 8, 2) := by decide +kernel
theorem dL_law_521 : decode cL_law 521 = .ok (.invokestatic 194, 3) := by decide +kernel
theorem dL_law_524 : decode cL_law 524 = .ok (.istore 13, 2) := by decide +kernel
theorem dL_law_526 : decode cL_law 526 = .ok (.iload 13, 2) := by decide +kernel
theorem dL_law_528 : decode cL_law 528 = .ok (.ifCond .eq 24, 3) := by decide +kernel
theorem dL_law_531 : decode cL_law 531 = .ok (.aload_n 1, 1) := by decide +kernel
theorem dL_law_532 : decode cL_law 532 = .ok (.iload 11, 2) := by decide +kernel
theorem dL_law_534 : decode cL_law 534 = .ok (.aload_n 2, 1) := by decide +kernel
theorem dL_law_535 : decode cL_law 535 = .ok (.aload_n 3, 1) := by decide +kernel
theorem dL_law_536 : decode cL_law 536 = .ok (.aload 4, 2) := by decide +kernel
theorem dL_law_538 : decode cL_law 538 = .ok (.aload 5, 2) := by decide +kernel
theorem dL_law_540 : decode cL_law 540 = .ok (.aload 6, 2) := by decide +kernel
theorem dL_law_542 : decode cL_law 542 = .ok (.aload 7, 2) := by decide +kernel
theorem dL_law_544 : decode cL_law 544 = .ok (.aload 8, 2) := by decide +kernel
theorem dL_law_546 : decode cL_law 546 = .ok (.invokestatic 196, 3) := by decide +kernel
theorem dL_law_549 : decode cL_law 549 = .ok (.ifCond .ne 5, 3) := by decide +kernel
theorem dL_law_552 : decode cL_law 552 = .ok (.iconst 0, 1) := by decide +kernel
theorem dL_law_553 : decode cL_law 553 = .ok (.ireturn, 1) := by decide +kernel
theorem dL_law_554 : decode cL_law 554 = .ok (.iinc 9 1, 3) := by decide +kernel
theorem dL_law_557 : decode cL_law 557 = .ok (.goto (-460), 3) := by decide +kernel
theorem dL_law_560 : decode cL_law 560 = .ok (.iconst 1, 1) := by decide +kernel
theorem dL_law_561 : decode cL_law 561 = .ok (.ireturn, 1) := by decide +kernel
