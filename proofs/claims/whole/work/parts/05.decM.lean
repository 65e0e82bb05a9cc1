theorem dX7_init_0 : decode cX7_init 0 = .ok (.aload_n 0, 1) := by decide +kernel
theorem dX7_init_1 : decode cX7_init 1 = .ok (.invokespecial 1, 3) := by decide +kernel
theorem dX7_init_4 : decode cX7_init 4 = .ok (.aload_n 0, 1) := by decide +kernel
theorem dX7_init_5 : decode cX7_init 5 = .ok (.bipush 8, 2) := by decide +kernel
theorem dX7_init_7 : decode cX7_init 7 = .ok (.newarray .int, 2) := by decide +kernel
theorem dX7_init_9 : decode cX7_init 9 = .ok (.putfield 7, 3) := by decide +kernel
theorem dX7_init_12 : decode cX7_init 12 = .ok (.aload_n 0, 1) := by decide +kernel
theorem dX7_init_13 : decode cX7_init 13 = .ok (.bipush 8, 2) := by decide +kernel
theorem dX7_init_15 : decode cX7_init 15 = .ok (.newarray .int, 2) := by decide +kernel
theorem dX7_init_17 : decode cX7_init 17 = .ok (.putfield 13, 3) := by decide +kernel
theorem dX7_init_20 : decode cX7_init 20 = .ok (.aload_n 0, 1) := by decide +kernel
theorem dX7_init_21 : decode cX7_init 21 = .ok (.bipush 40, 2) := by decide +kernel
theorem dX7_init_23 : decode cX7_init 23 = .ok (.newarray .int, 2) := by decide +kernel
theorem dX7_init_25 : decode cX7_init 25 = .ok (.putfield 16, 3) := by decide +kernel
theorem dX7_init_28 : decode cX7_init 28 = .ok (.aload_n 0, 1) := by decide +kernel
theorem dX7_init_29 : decode cX7_init 29 = .ok (.bipush 40, 2) := by decide +kernel
theorem dX7_init_31 : decode cX7_init 31 = .ok (.newarray .int, 2) := by decide +kernel
theorem dX7_init_33 : decode cX7_init 33 = .ok (.putfield 19, 3) := by decide +kernel
theorem dX7_init_36 : decode cX7_init 36 = .ok (.aload_n 0, 1) := by decide +kernel
theorem dX7_init_37 : decode cX7_init 37 = .ok (.bipush 40, 2) := by decide +kernel
theorem dX7_init_39 : decode cX7_init 39 = .ok (.newarray .int, 2) := by decide +kernel
theorem dX7_init_41 : decode cX7_init 41 = .ok (.putfield 22, 3) := by decide +kernel
theorem dX7_init_44 : decode cX7_init 44 = .ok (.aload_n 0, 1) := by decide +kernel
theorem dX7_init_45 : decode cX7_init 45 = .ok (.bipush 40, 2) := by decide +kernel
theorem dX7_init_47 : decode cX7_init 47 = .ok (.newarray .int, 2) := by decide +kernel
theorem dX7_init_49 : decode cX7_init 49 = .ok (.putfield 25, 3) := by decide +kernel
theorem dX7_init_52 : decode cX7_init 52 = .ok (.aload_n 0, 1) := by decide +kernel
theorem dX7_init_53 : decode cX7_init 53 = .ok (.bipush 40, 2) := by decide +kernel
theorem dX7_init_55 : decode cX7_init 55 = .ok (.newarray .int, 2) := by decide +kernel
theorem dX7_init_57 : decode cX7_init 57 = .ok (.putfield 28, 3) := by decide +kernel
theorem dX7_init_60 : decode cX7_init 60 = .ok (.aload_n 0, 1) := by decide +kernel
theorem dX7_init_61 : decode cX7_init 61 = .ok (.bipush 40, 2) := by decide +kernel
theorem dX7_init_63 : decode cX7_init 63 = .ok (.newarray .int, 2) := by decide +kernel
theorem dX7_init_65 : decode cX7_init 65 = .ok (.putfield 31, 3) := by decide +kernel
theorem dX7_init_68 : decode cX7_init 68 = .ok (.aload_n 0, 1) := by decide +kernel
theorem dX7_init_69 : decode cX7_init 69 = .ok (.bipush 40, 2) := by decide +kernel
theorem dX7_init_71 : decode cX7_init 71 = .ok (.newarray .char, 2) := by decide +kernel
theorem dX7_init_73 : decode cX7_init 73 = .ok (.putfield 34, 3) := by decide +kernel
theorem dX7_init_76 : decode cX7_init 76 = .ok (.aload_n 0, 1) := by decide +kernel
theorem dX7_init_77 : decode cX7_init 77 = .ok (.bipush 12, 2) := by decide +kernel
theorem dX7_init_79 : decode cX7_init 79 = .ok (.newarray .int, 2) := by decide +kernel
theorem dX7_init_81 : decode cX7_init 81 = .ok (.putfield 38, 3) := by decide +kernel
theorem dX7_init_84 : decode cX7_init 84 = .ok (.aload_n 0, 1) := by decide +kernel
theorem dX7_init_85 : decode cX7_init 85 = .ok (.bipush 12, 2) := by decide +kernel
theorem dX7_init_87 : decode cX7_init 87 = .ok (.newarray .int, 2) := by decide +kernel
theorem dX7_init_89 : decode cX7_init 89 = .ok (.putfield 41, 3) := by decide +kernel
theorem dX7_init_92 : decode cX7_init 92 = .ok (.aload_n 0, 1) := by decide +kernel
theorem dX7_init_93 : decode cX7_init 93 = .ok (.bipush 12, 2) := by decide +kernel
theorem dX7_init_95 : decode cX7_init 95 = .ok (.newarray .int, 2) := by decide +kernel
theorem dX7_init_97 : decode cX7_init 97 = .ok (.putfield 44, 3) := by decide +kernel
theorem dX7_init_100 : decode cX7_init 100 = .ok (.aload_n 0, 1) := by decide +kernel
theorem dX7_init_101 : decode cX7_init 101 = .ok (.bipush 12, 2) := by decide +kernel
theorem dX7_init_103 : decode cX7_init 103 = .ok (.newarray .int, 2) := by decide +kernel
theorem dX7_init_105 : decode cX7_init 105 = .ok (.putfield 47, 3) := by decide +kernel
theorem dX7_init_108 : decode cX7_init 108 = .ok (.aload_n 0, 1) := by decide +kernel
theorem dX7_init_109 : decode cX7_init 109 = .ok (.bipush 12, 2) := by decide +kernel
theorem dX7_init_111 : decode cX7_init 111 = .ok (.newarray .boolean, 2) := by decide +kernel
theorem dX7_init_113 : decode cX7_init 113 = .ok (.putfield 50, 3) := by decide +kernel
theorem dX7_init_116 : decode cX7_init 116 = .ok (.aload_n 0, 1) := by decide +kernel
theorem dX7_init_117 : decode cX7_init 117 = .ok (.sipush 200, 3) := by decide +kernel
theorem dX7_init_120 : decode cX7_init 120 = .ok (.newarray .int, 2) := by decide +kernel
theorem dX7_init_122 : decode cX7_init 122 = .ok (.putfield 54, 3) := by decide +kernel
theorem dX7_init_125 : decode cX7_init 125 = .ok (.aload_n 0, 1) := by decide +kernel
theorem dX7_init_126 : decode cX7_init 126 = .ok (.sipush 200, 3) := by decide +kernel
theorem dX7_init_129 : decode cX7_init 129 = .ok (.newarray .int, 2) := by decide +kernel
theorem dX7_init_131 : decode cX7_init 131 = .ok (.putfield 57, 3) := by decide +kernel
theorem dX7_init_134 : decode cX7_init 134 = .ok (.aload_n 0, 1) := by decide +kernel
theorem dX7_init_135 : decode cX7_init 135 = .ok (.sipush 200, 3) := by decide +kernel
theorem dX7_init_138 : decode cX7_init 138 = .ok (.newarray .int, 2) := by decide +kernel
theorem dX7_init_140 : decode cX7_init 140 = .ok (.putfield 60, 3) := by decide +kernel
theorem dX7_init_143 : decode cX7_init 143 = .ok (.aload_n 0, 1) := by decide +kernel
theorem dX7_init_144 : decode cX7_init 144 = .ok (.sipush 200, 3) := by decide +kernel
theorem dX7_init_147 : decode cX7_init 147 = .ok (.newarray .int, 2) := by decide +kernel
theorem dX7_init_149 : decode cX7_init 149 = .ok (.putfield 63, 3) := by decide +kernel
theorem dX7_init_152 : decode cX7_init 152 = .ok (.aload_n 0, 1) := by decide +kernel
theorem dX7_init_153 : decode cX7_init 153 = .ok (.sipush 200, 3) := by decide +kernel
theorem dX7_init_156 : decode cX7_init 156 = .ok (.newarray .int, 2) := by decide +kernel
theorem dX7_init_158 : decode cX7_init 158 = .ok (.putfield 66, 3) := by decide +kernel
theorem dX7_init_161 : decode cX7_init 161 = .ok (.aload_n 0, 1) := by decide +kernel
theorem dX7_init_162 : decode cX7_init 162 = .ok (.bipush 40, 2) := by decide +kernel
theorem dX7_init_164 : decode cX7_init 164 = .ok (.newarray .int, 2) := by decide +kernel
theorem dX7_init_166 : decode cX7_init 166 = .ok (.putfield 69, 3) := by decide +kernel
theorem dX7_init_169 : decode cX7_init 169 = .ok (.aload_n 0, 1) := by decide +kernel
theorem dX7_init_170 : decode cX7_init 170 = .ok (.bipush 40, 2) := by decide +kernel
theorem dX7_init_172 : decode cX7_init 172 = .ok (.newarray .int, 2) := by decide +kernel
theorem dX7_init_174 : decode cX7_init 174 = .ok (.putfield 72, 3) := by decide +kernel
theorem dX7_init_177 : decode cX7_init 177 = .ok (.aload_n 0, 1) := by decide +kernel
theorem dX7_init_178 : decode cX7_init 178 = .ok (.bipush 40, 2) := by decide +kernel
theorem dX7_init_180 : decode cX7_init 180 = .ok (.newarray .boolean, 2) := by decide +kernel
theorem dX7_init_182 : decode cX7_init 182 = .ok (.putfield 75, 3) := by decide +kernel
theorem dX7_init_185 : decode cX7_init 185 = .ok (.aload_n 0, 1) := by decide +kernel
theorem dX7_init_186 : decode cX7_init 186 = .ok (.bipush 8, 2) := by decide +kernel
theorem dX7_init_188 : decode cX7_init 188 = .ok (.newarray .int, 2) := by decide +kernel
theorem dX7_init_190 : decode cX7_init 190 = .ok (.putfield 78, 3) := by decide +kernel
theorem dX7_init_193 : decode cX7_init 193 = .ok (.iconst 0, 1) := by decide +kernel
theorem dX7_init_194 : decode cX7_init 194 = .ok (.istore_n 1, 1) := by decide +kernel
theorem dX7_init_195 : decode cX7_init 195 = .ok (.iload_n 1, 1) := by decide +kernel
theorem dX7_init_196 : decode cX7_init 196 = .ok (.bipush 8, 2) := by decide +kernel
theorem dX7_init_198 : decode cX7_init 198 = .ok (.if_icmp .ge 17, 3) := by decide +kernel
theorem dX7_init_201 : decode cX7_init 201 = .ok (.aload_n 0, 1) := by decide +kernel
theorem dX7_init_202 : decode cX7_init 202 = .ok (.getfield 13, 3) := by decide +kernel
theorem dX7_init_205 : decode cX7_init 205 = .ok (.iload_n 1, 1) := by decide +kernel
theorem dX7_init_206 : decode cX7_init 206 = .ok (.bipush 10, 2) := by decide +kernel
theorem dX7_init_208 : decode cX7_init 208 = .ok (.iastore, 1) := by decide +kernel
theorem dX7_init_209 : decode cX7_init 209 = .ok (.iinc 1 1, 3) := by decide +kernel
theorem dX7_init_212 : decode cX7_init 212 = .ok (.goto (-17), 3) := by decide +kernel
theorem dX7_init_215 : decode cX7_init 215 = .ok (.return_, 1) := by decide +kernel
theorem dX7_thrown_0 : decode cX7_thrown 0 = .ok (.aload_n 0, 1) := by decide +kernel
theorem dX7_thrown_1 : decode cX7_thrown 1 = .ok (.getfield 81, 3) := by decide +kernel
theorem dX7_thrown_4 : decode cX7_thrown 4 = .ok (.ireturn, 1) := by decide +kernel
theorem dX7_may_0 : decode cX7_may 0 = .ok (.aload_n 0, 1) := by decide +kernel
theorem dX7_may_1 : decode cX7_may 1 = .ok (.iload_n 1, 1) := by decide +kernel
theorem dX7_may_2 : decode cX7_may 2 = .ok (.ifCond .eq 7, 3) := by decide +kernel
theorem dX7_may_5 : decode cX7_may 5 = .ok (.iconst 0, 1) := by decide +kernel
theorem dX7_may_6 : decode cX7_may 6 = .ok (.goto 4, 3) := by decide +kernel
theorem dX7_may_9 : decode cX7_may 9 = .ok (.iconst 1, 1) := by decide +kernel
theorem dX7_may_10 : decode cX7_may 10 = .ok (.putfield 81, 3) := by decide +kernel
theorem dX7_may_13 : decode cX7_may 13 = .ok (.iload_n 1, 1) := by decide +kernel
theorem dX7_may_14 : decode cX7_may 14 = .ok (.ireturn, 1) := by decide +kernel
theorem dX7_mayBoth_0 : decode cX7_mayBoth 0 = .ok (.aload_n 0, 1) := by decide +kernel
theorem dX7_mayBoth_1 : decode cX7_mayBoth 1 = .ok (.iload_n 1, 1) := by decide +kernel
theorem dX7_mayBoth_2 : decode cX7_mayBoth 2 = .ok (.ifCond .ne 7, 3) := by decide +kernel
theorem dX7_mayBoth_5 : decode cX7_mayBoth 5 = .ok (.iconst 1, 1) := by decide +kernel
theorem dX7_mayBoth_6 : decode cX7_mayBoth 6 = .ok (.goto 12, 3) := by decide +kernel
theorem dX7_mayBoth_9 : decode cX7_mayBoth 9 = .ok (.iload_n 2, 1) := by decide +kernel
theorem dX7_mayBoth_10 : decode cX7_mayBoth 10 = .ok (.ifCond .ne 7, 3) := by decide +kernel
theorem dX7_mayBoth_13 : decode cX7_mayBoth 13 = .ok (.iconst 2, 1) := by decide +kernel
theorem dX7_mayBoth_14 : decode cX7_mayBoth 14 = .ok (.goto 4, 3) := by decide +kernel
theorem dX7_mayBoth_17 : decode cX7_mayBoth 17 = .ok (.iconst 0, 1) := by decide +kernel
theorem dX7_mayBoth_18 : decode cX7_mayBoth 18 = .ok (.putfield 81, 3) := by decide +kernel
theorem dX7_mayBoth_21 : decode cX7_mayBoth 21 = .ok (.aload_n 0, 1) := by decide +kernel
theorem dX7_mayBoth_22 : decode cX7_mayBoth 22 = .ok (.getfield 81, 3) := by decide +kernel
theorem dX7_mayBoth_25 : decode cX7_mayBoth 25 = .ok (.ifCond .ne 7, 3) := by decide +kernel
theorem dX7_mayBoth_28 : decode cX7_mayBoth 28 = .ok (.iconst 1, 1) := by decide +kernel
theorem dX7_mayBoth_29 : decode cX7_mayBoth 29 = .ok (.goto 4, 3) := by decide +kernel
theorem dX7_mayBoth_32 : decode cX7_mayBoth 32 = .ok (.iconst 0, 1) := by decide +kernel
theorem dX7_mayBoth_33 : decode cX7_mayBoth 33 = .ok (.ireturn, 1) := by decide +kernel
theorem dX7_mayAll_0 : decode cX7_mayAll 0 = .ok (.aload_n 0, 1) := by decide +kernel
theorem dX7_mayAll_1 : decode cX7_mayAll 1 = .ok (.iload_n 1, 1) := by decide +kernel
theorem dX7_mayAll_2 : decode cX7_mayAll 2 = .ok (.ifCond .ne 7, 3) := by decide +kernel
theorem dX7_mayAll_5 : decode cX7_mayAll 5 = .ok (.iconst 1, 1) := by decide +kernel
theorem dX7_mayAll_6 : decode cX7_mayAll 6 = .ok (.goto 20, 3) := by decide +kernel
theorem dX7_mayAll_9 : decode cX7_mayAll 9 = .ok (.iload_n 2, 1) := by decide +kernel
theorem dX7_mayAll_10 : decode cX7_mayAll 10 = .ok (.ifCond .ne 7, 3) := by decide +kernel
theorem dX7_mayAll_13 : decode cX7_mayAll 13 = .ok (.iconst 2, 1) := by decide +kernel
theorem dX7_mayAll_14 : decode cX7_mayAll 14 = .ok (.goto 12, 3) := by decide +kernel
theorem dX7_mayAll_17 : decode cX7_mayAll 17 = .ok (.iload_n 3, 1) := by decide +kernel
theorem dX7_mayAll_18 : decode cX7_mayAll 18 = .ok (.ifCond .ne 7, 3) := by decide +kernel
theorem dX7_mayAll_21 : decode cX7_mayAll 21 = .ok (.iconst 3, 1) := by decide +kernel
theorem dX7_mayAll_22 : decode cX7_mayAll 22 = .ok (.goto 4, 3) := by decide +kernel
theorem dX7_mayAll_25 : decode cX7_mayAll 25 = .ok (.iconst 0, 1) := by decide +kernel
theorem dX7_mayAll_26 : decode cX7_mayAll 26 = .ok (.putfield 81, 3) := by decide +kernel
theorem dX7_mayAll_29 : decode cX7_mayAll 29 = .ok (.aload_n 0, 1) := by decide +kernel
theorem dX7_mayAll_30 : decode cX7_mayAll 30 = .ok (.getfield 81, 3) := by decide +kernel
theorem dX7_mayAll_33 : decode cX7_mayAll 33 = .ok (.ifCond .ne 7, 3) := by decide +kernel
theorem dX7_mayAll_36 : decode cX7_mayAll 36 = .ok (.iconst 1, 1) := by decide +kernel
theorem dX7_mayAll_37 : decode cX7_mayAll 37 = .ok (.goto 4, 3) := by decide +kernel
theorem dX7_mayAll_40 : decode cX7_mayAll 40 = .ok (.iconst 0, 1) := by decide +kernel
theorem dX7_mayAll_41 : decode cX7_mayAll 41 = .ok (.ireturn, 1) := by decide +kernel
theorem dX7_isIn_0 : decode cX7_isIn 0 = .ok (.iload_n 0, 1) := by decide +kernel
theorem dX7_isIn_1 : decode cX7_isIn 1 = .ok (.iload_n 1, 1) := by decide +kernel
theorem dX7_isIn_2 : decode cX7_isIn 2 = .ok (.if_icmp .lt 12, 3) := by decide +kernel
theorem dX7_isIn_5 : decode cX7_isIn 5 = .ok (.iload_n 0, 1) := by decide +kernel
theorem dX7_isIn_6 : decode cX7_isIn 6 = .ok (.iload_n 2, 1) := by decide +kernel
theorem dX7_isIn_7 : decode cX7_isIn 7 = .ok (.if_icmp .gt 7, 3) := by decide +kernel
theorem dX7_isIn_10 : decode cX7_isIn 10 = .ok (.iconst 1, 1) := by decide +kernel
theorem dX7_isIn_11 : decode cX7_isIn 11 = .ok (.goto 4, 3) := by decide +kernel
theorem dX7_isIn_14 : decode cX7_isIn 14 = .ok (.iconst 0, 1) := by decide +kernel
theorem dX7_isIn_15 : decode cX7_isIn 15 = .ok (.ireturn, 1) := by decide +kernel
theorem dX7_isWorker_0 : decode cX7_isWorker 0 = .ok (.iload_n 0, 1) := by decide +kernel
theorem dX7_isWorker_1 : decode cX7_isWorker 1 = .ok (.iconst 0, 1) := by decide +kernel
theorem dX7_isWorker_2 : decode cX7_isWorker 2 = .ok (.bipush 7, 2) := by decide +kernel
theorem dX7_isWorker_4 : decode cX7_isWorker 4 = .ok (.invokestatic 85, 3) := by decide +kernel
theorem dX7_isWorker_7 : decode cX7_isWorker 7 = .ok (.ireturn, 1) := by decide +kernel
theorem dX7_isShift_0 : decode cX7_isShift 0 = .ok (.iload_n 1, 1) := by decide +kernel
theorem dX7_isShift_1 : decode cX7_isShift 1 = .ok (.iconst 0, 1) := by decide +kernel
theorem dX7_isShift_2 : decode cX7_isShift 2 = .ok (.aload_n 0, 1) := by decide +kernel
theorem dX7_isShift_3 : decode cX7_isShift 3 = .ok (.getfield 89, 3) := by decide +kernel
theorem dX7_isShift_6 : decode cX7_isShift 6 = .ok (.iconst 1, 1) := by decide +kernel
theorem dX7_isShift_7 : decode cX7_isShift 7 = .ok (.isub, 1) := by decide +kernel
theorem dX7_isShift_8 : decode cX7_isShift 8 = .ok (.invokestatic 85, 3) := by decide +kernel
theorem dX7_isShift_11 : decode cX7_isShift 11 = .ok (.ireturn, 1) := by decide +kernel
theorem dX7_isRule_0 : decode cX7_isRule 0 = .ok (.iload_n 1, 1) := by decide +kernel
theorem dX7_isRule_1 : decode cX7_isRule 1 = .ok (.iconst 0, 1) := by decide +kernel
theorem dX7_isRule_2 : decode cX7_isRule 2 = .ok (.aload_n 0, 1) := by decide +kernel
theorem dX7_isRule_3 : decode cX7_isRule 3 = .ok (.getfield 92, 3) := by decide +kernel
theorem dX7_isRule_6 : decode cX7_isRule 6 = .ok (.iconst 1, 1) := by decide +kernel
theorem dX7_isRule_7 : decode cX7_isRule 7 = .ok (.isub, 1) := by decide +kernel
theorem dX7_isRule_8 : decode cX7_isRule 8 = .ok (.invokestatic 85, 3) := by decide +kernel
theorem dX7_isRule_11 : decode cX7_isRule 11 = .ok (.ireturn, 1) := by decide +kernel
theorem dX7_isClaim_0 : decode cX7_isClaim 0 = .ok (.iload_n 1, 1) := by decide +kernel
theorem dX7_isClaim_1 : decode cX7_isClaim 1 = .ok (.iconst 0, 1) := by decide +kernel
theorem dX7_isClaim_2 : decode cX7_isClaim 2 = .ok (.aload_n 0, 1) := by decide +kernel
theorem dX7_isClaim_3 : decode cX7_isClaim 3 = .ok (.getfield 95, 3) := by decide +kernel
theorem dX7_isClaim_6 : decode cX7_isClaim 6 = .ok (.iconst 1, 1) := by decide +kernel
theorem dX7_isClaim_7 : decode cX7_isClaim 7 = .ok (.isub, 1) := by decide +kernel
theorem dX7_isClaim_8 : decode cX7_isClaim 8 = .ok (.invokestatic 85, 3) := by decide +kernel
theorem dX7_isClaim_11 : decode cX7_isClaim 11 = .ok (.ireturn, 1) := by decide +kernel
theorem dX7_isOffer_0 : decode cX7_isOffer 0 = .ok (.iload_n 1, 1) := by decide +kernel
theorem dX7_isOffer_1 : decode cX7_isOffer 1 = .ok (.iconst 0, 1) := by decide +kernel
theorem dX7_isOffer_2 : decode cX7_isOffer 2 = .ok (.aload_n 0, 1) := by decide +kernel
theorem dX7_isOffer_3 : decode cX7_isOffer 3 = .ok (.getfield 98, 3) := by decide +kernel
theorem dX7_isOffer_6 : decode cX7_isOffer 6 = .ok (.iconst 1, 1) := by decide +kernel
theorem dX7_isOffer_7 : decode cX7_isOffer 7 = .ok (.isub, 1) := by decide +kernel
theorem dX7_isOffer_8 : decode cX7_isOffer 8 = .ok (.invokestatic 85, 3) := by decide +kernel
theorem dX7_isOffer_11 : decode cX7_isOffer 11 = .ok (.ireturn, 1) := by decide +kernel
theorem dX7_pass_0 : decode cX7_pass 0 = .ok (.iload_n 1, 1) := by decide +kernel
theorem dX7_pass_1 : decode cX7_pass 1 = .ok (.iconst 1, 1) := by decide +kernel
theorem dX7_pass_2 : decode cX7_pass 2 = .ok (.sipush 200, 3) := by decide +kernel
theorem dX7_pass_5 : decode cX7_pass 5 = .ok (.invokestatic 85, 3) := by decide +kernel
theorem dX7_pass_8 : decode cX7_pass 8 = .ok (.istore_n 2, 1) := by decide +kernel
theorem dX7_pass_9 : decode cX7_pass 9 = .ok (.aload_n 0, 1) := by decide +kernel
theorem dX7_pass_10 : decode cX7_pass 10 = .ok (.iload_n 2, 1) := by decide +kernel
theorem dX7_pass_11 : decode cX7_pass 11 = .ok (.iload_n 2, 1) := by decide +kernel
theorem dX7_pass_12 : decode cX7_pass 12 = .ok (.ifCond .eq 19, 3) := by decide +kernel
theorem dX7_pass_15 : decode cX7_pass 15 = .ok (.aload_n 0, 1) := by decide +kernel
theorem dX7_pass_16 : decode cX7_pass 16 = .ok (.getfield 101, 3) := by decide +kernel
theorem dX7_pass_19 : decode cX7_pass 19 = .ok (.iload_n 1, 1) := by decide +kernel
theorem dX7_pass_20 : decode cX7_pass 20 = .ok (.iadd, 1) := by decide +kernel
theorem dX7_pass_21 : decode cX7_pass 21 = .ok (.sipush 2000, 3) := by decide +kernel
theorem dX7_pass_24 : decode cX7_pass 24 = .ok (.if_icmp .gt 7, 3) := by decide +kernel
theorem dX7_pass_27 : decode cX7_pass 27 = .ok (.iconst 1, 1) := by decide +kernel
theorem dX7_pass_28 : decode cX7_pass 28 = .ok (.goto 4, 3) := by decide +kernel
theorem dX7_pass_31 : decode cX7_pass 31 = .ok (.iconst 0, 1) := by decide +kernel
theorem dX7_pass_32 : decode cX7_pass 32 = .ok (.invokevirtual 104, 3) := by decide +kernel
theorem dX7_pass_35 : decode cX7_pass 35 = .ok (.ifCond .ne 5, 3) := by decide +kernel
theorem dX7_pass_38 : decode cX7_pass 38 = .ok (.iconst 0, 1) := by decide +kernel
theorem dX7_pass_39 : decode cX7_pass 39 = .ok (.ireturn, 1) := by decide +kernel
theorem dX7_pass_40 : decode cX7_pass 40 = .ok (.aload_n 0, 1) := by decide +kernel
theorem dX7_pass_41 : decode cX7_pass 41 = .ok (.dup, 1) := by decide +kernel
theorem dX7_pass_42 : decode cX7_pass 42 = .ok (.getfield 101, 3) := by decide +kernel
theorem dX7_pass_45 : decode cX7_pass 45 = .ok (.iload_n 1, 1) := by decide +kernel
theorem dX7_pass_46 : decode cX7_pass 46 = .ok (.iadd, 1) := by decide +kernel
theorem dX7_pass_47 : decode cX7_pass 47 = .ok (.putfield 101, 3) := by decide +kernel
theorem dX7_pass_50 : decode cX7_pass 50 = .ok (.aload_n 0, 1) := by decide +kernel
theorem dX7_pass_51 : decode cX7_pass 51 = .ok (.getfield 101, 3) := by decide +kernel
theorem dX7_pass_54 : decode cX7_pass 54 = .ok (.ireturn, 1) := by decide +kernel
theorem dX7_worker_0 : decode cX7_worker 0 = .ok (.aload_n 0, 1) := by decide +kernel
theorem dX7_worker_1 : decode cX7_worker 1 = .ok (.iload_n 1, 1) := by decide +kernel
theorem dX7_worker_2 : decode cX7_worker 2 = .ok (.invokestatic 108, 3) := by decide +kernel
theorem dX7_worker_5 : decode cX7_worker 5 = .ok (.iload_n 2, 1) := by decide +kernel
theorem dX7_worker_6 : decode cX7_worker 6 = .ok (.iconst 0, 1) := by decide +kernel
theorem dX7_worker_7 : decode cX7_worker 7 = .ok (.bipush 15, 2) := by decide +kernel
theorem dX7_worker_9 : decode cX7_worker 9 = .ok (.invokestatic 85, 3) := by decide +kernel
theorem dX7_worker_12 : decode cX7_worker 12 = .ok (.ifCond .eq 18, 3) := by decide +kernel
theorem dX7_worker_15 : decode cX7_worker 15 = .ok (.iload_n 3, 1) := by decide +kernel
theorem dX7_worker_16 : decode cX7_worker 16 = .ok (.iconst 0, 1) := by decide +kernel
theorem dX7_worker_17 : decode cX7_worker 17 = .ok (.sipush 1000, 3) := by decide +kernel
theorem dX7_worker_20 : decode cX7_worker 20 = .ok (.invokestatic 85, 3) := by decide +kernel
theorem dX7_worker_23 : decode cX7_worker 23 = .ok (.ifCond .eq 7, 3) := by decide +kernel
theorem dX7_worker_26 : decode cX7_worker 26 = .ok (.iconst 1, 1) := by decide +kernel
theorem dX7_worker_27 : decode cX7_worker 27 = .ok (.goto 4, 3) := by decide +kernel
theorem dX7_worker_30 : decode cX7_worker 30 = .ok (.iconst 0, 1) := by decide +kernel
theorem dX7_worker_31 : decode cX7_worker 31 = .ok (.invokevirtual 104, 3) := by decide +kernel
theorem dX7_worker_34 : decode cX7_worker 34 = .ok (.ifCond .ne 5, 3) := by decide +kernel
theorem dX7_worker_37 : decode cX7_worker 37 = .ok (.iconst 0, 1) := by decide +kernel
theorem dX7_worker_38 : decode cX7_worker 38 = .ok (.ireturn, 1) := by decide +kernel
theorem dX7_worker_39 : decode cX7_worker 39 = .ok (.aload_n 0, 1) := by decide +kernel
theorem dX7_worker_40 : decode cX7_worker 40 = .ok (.getfield 13, 3) := by decide +kernel
theorem dX7_worker_43 : decode cX7_worker 43 = .ok (.iload_n 1, 1) := by decide +kernel
theorem dX7_worker_44 : decode cX7_worker 44 = .ok (.iaload, 1) := by decide +kernel
theorem dX7_worker_45 : decode cX7_worker 45 = .ok (.istore 4, 2) := by decide +kernel
theorem dX7_worker_47 : decode cX7_worker 47 = .ok (.aload_n 0, 1) := by decide +kernel
theorem dX7_worker_48 : decode cX7_worker 48 = .ok (.getfield 7, 3) := by decide +kernel
theorem dX7_worker_51 : decode cX7_worker 51 = .ok (.iload_n 1, 1) := by decide +kernel
theorem dX7_worker_52 : decode cX7_worker 52 = .ok (.iload_n 2, 1) := by decide +kernel
theorem dX7_worker_53 : decode cX7_worker 53 = .ok (.iastore, 1) := by decide +kernel
theorem dX7_worker_54 : decode cX7_worker 54 = .ok (.aload_n 0, 1) := by decide +kernel
theorem dX7_worker_55 : decode cX7_worker 55 = .ok (.getfield 13, 3) := by decide +kernel
theorem dX7_worker_58 : decode cX7_worker 58 = .ok (.iload_n 1, 1) := by decide +kernel
theorem dX7_worker_59 : decode cX7_worker 59 = .ok (.iload_n 3, 1) := by decide +kernel
theorem dX7_worker_60 : decode cX7_worker 60 = .ok (.iastore, 1) := by decide +kernel
theorem dX7_worker_61 : decode cX7_worker 61 = .ok (.iload 4, 2) := by decide +kernel
theorem dX7_worker_63 : decode cX7_worker 63 = .ok (.ireturn, 1) := by decide +kernel
theorem dX7_shift_0 : decode cX7_shift 0 = .ok (.aload_n 0, 1) := by decide +kernel
theorem dX7_shift_1 : decode cX7_shift 1 = .ok (.iload_n 1, 1) := by decide +kernel
theorem dX7_shift_2 : decode cX7_shift 2 = .ok (.iconst 0, 1) := by decide +kernel
theorem dX7_shift_3 : decode cX7_shift 3 = .ok (.sipush 2000, 3) := by decide +kernel
theorem dX7_shift_6 : decode cX7_shift 6 = .ok (.invokestatic 85, 3) := by decide +kernel
theorem dX7_shift_9 : decode cX7_shift 9 = .ok (.ifCond .eq 26, 3) := by decide +kernel
theorem dX7_shift_12 : decode cX7_shift 12 = .ok (.iload_n 2, 1) := by decide +kernel
theorem dX7_shift_13 : decode cX7_shift 13 = .ok (.iconst 1, 1) := by decide +kernel
theorem dX7_shift_14 : decode cX7_shift 14 = .ok (.bipush 16, 2) := by decide +kernel
theorem dX7_shift_16 : decode cX7_shift 16 = .ok (.invokestatic 85, 3) := by decide +kernel
theorem dX7_shift_19 : decode cX7_shift 19 = .ok (.ifCond .eq 16, 3) := by decide +kernel
theorem dX7_shift_22 : decode cX7_shift 22 = .ok (.iload_n 3, 1) := by decide +kernel
theorem dX7_shift_23 : decode cX7_shift 23 = .ok (.iconst 0, 1) := by decide +kernel
theorem dX7_shift_24 : decode cX7_shift 24 = .ok (.iconst 3, 1) := by decide +kernel
theorem dX7_shift_25 : decode cX7_shift 25 = .ok (.invokestatic 85, 3) := by decide +kernel
theorem dX7_shift_28 : decode cX7_shift 28 = .ok (.ifCond .eq 7, 3) := by decide +kernel
theorem dX7_shift_31 : decode cX7_shift 31 = .ok (.iconst 1, 1) := by decide +kernel
theorem dX7_shift_32 : decode cX7_shift 32 = .ok (.goto 4, 3) := by decide +kernel
theorem dX7_shift_35 : decode cX7_shift 35 = .ok (.iconst 0, 1) := by decide +kernel
theorem dX7_shift_36 : decode cX7_shift 36 = .ok (.aload_n 0, 1) := by decide +kernel
theorem dX7_shift_37 : decode cX7_shift 37 = .ok (.getfield 89, 3) := by decide +kernel
theorem dX7_shift_40 : decode cX7_shift 40 = .ok (.bipush 40, 2) := by decide +kernel
theorem dX7_shift_42 : decode cX7_shift 42 = .ok (.if_icmp .ge 7, 3) := by decide +kernel
theorem dX7_shift_45 : decode cX7_shift 45 = .ok (.iconst 1, 1) := by decide +kernel
theorem dX7_shift_46 : decode cX7_shift 46 = .ok (.goto 4, 3) := by decide +kernel
theorem dX7_shift_49 : decode cX7_shift 49 = .ok (.iconst 0, 1) := by decide +kernel
theorem dX7_shift_50 : decode cX7_shift 50 = .ok (.invokevirtual 104, 3) := by decide +kernel
theorem dX7_shift_53 : decode cX7_shift 53 = .ok (.ifCond .ne 5, 3) := by decide +kernel
theorem dX7_shift_56 : decode cX7_shift 56 = .ok (.iconst 0, 1) := by decide +kernel
theorem dX7_shift_57 : decode cX7_shift 57 = .ok (.ireturn, 1) := by decide +kernel
theorem dX7_shift_58 : decode cX7_shift 58 = .ok (.aload_n 0, 1) := by decide +kernel
theorem dX7_shift_59 : decode cX7_shift 59 = .ok (.getfield 16, 3) := by decide +kernel
theorem dX7_shift_62 : decode cX7_shift 62 = .ok (.aload_n 0, 1) := by decide +kernel
theorem dX7_shift_63 : decode cX7_shift 63 = .ok (.getfield 89, 3) := by decide +kernel
theorem dX7_shift_66 : decode cX7_shift 66 = .ok (.iload_n 1, 1) := by decide +kernel
theorem dX7_shift_67 : decode cX7_shift 67 = .ok (.iastore, 1) := by decide +kernel
theorem dX7_shift_68 : decode cX7_shift 68 = .ok (.aload_n 0, 1) := by decide +kernel
theorem dX7_shift_69 : decode cX7_shift 69 = .ok (.getfield 19, 3) := by decide +kernel
theorem dX7_shift_72 : decode cX7_shift 72 = .ok (.aload_n 0, 1) := by decide +kernel
theorem dX7_shift_73 : decode cX7_shift 73 = .ok (.getfield 89, 3) := by decide +kernel
theorem dX7_shift_76 : decode cX7_shift 76 = .ok (.iload_n 1, 1) := by decide +kernel
theorem dX7_shift_77 : decode cX7_shift 77 = .ok (.iload_n 2, 1) := by decide +kernel
theorem dX7_shift_78 : decode cX7_shift 78 = .ok (.iadd, 1) := by decide +kernel
theorem dX7_shift_79 : decode cX7_shift 79 = .ok (.iastore, 1) := by decide +kernel
theorem dX7_shift_80 : decode cX7_shift 80 = .ok (.aload_n 0, 1) := by decide +kernel
theorem dX7_shift_81 : decode cX7_shift 81 = .ok (.getfield 28, 3) := by decide +kernel
theorem dX7_shift_84 : decode cX7_shift 84 = .ok (.aload_n 0, 1) := by decide +kernel
theorem dX7_shift_85 : decode cX7_shift 85 = .ok (.getfield 89, 3) := by decide +kernel
theorem dX7_shift_88 : decode cX7_shift 88 = .ok (.iload_n 1, 1) := by decide +kernel
theorem dX7_shift_89 : decode cX7_shift 89 = .ok (.iastore, 1) := by decide +kernel
theorem dX7_shift_90 : decode cX7_shift 90 = .ok (.aload_n 0, 1) := by decide +kernel
theorem dX7_shift_91 : decode cX7_shift 91 = .ok (.getfield 31, 3) := by decide +kernel
theorem dX7_shift_94 : decode cX7_shift 94 = .ok (.aload_n 0, 1) := by decide +kernel
theorem dX7_shift_95 : decode cX7_shift 95 = .ok (.getfield 89, 3) := by decide +kernel
theorem dX7_shift_98 : decode cX7_shift 98 = .ok (.iload_n 1, 1) := by decide +kernel
theorem dX7_shift_99 : decode cX7_shift 99 = .ok (.iload_n 2, 1) := by decide +kernel
theorem dX7_shift_100 : decode cX7_shift 100 = .ok (.iadd, 1) := by decide +kernel
theorem dX7_shift_101 : decode cX7_shift 101 = .ok (.iastore, 1) := by decide +kernel
theorem dX7_shift_102 : decode cX7_shift 102 = .ok (.aload_n 0, 1) := by decide +kernel
theorem dX7_shift_103 : decode cX7_shift 103 = .ok (.getfield 22, 3) := by decide +kernel
theorem dX7_shift_106 : decode cX7_shift 106 = .ok (.aload_n 0, 1) := by decide +kernel
theorem dX7_shift_107 : decode cX7_shift 107 = .ok (.getfield 89, 3) := by decide +kernel
theorem dX7_shift_110 : decode cX7_shift 110 = .ok (.iload_n 3, 1) := by decide +kernel
theorem dX7_shift_111 : decode cX7_shift 111 = .ok (.iastore, 1) := by decide +kernel
theorem dX7_shift_112 : decode cX7_shift 112 = .ok (.aload_n 0, 1) := by decide +kernel
theorem dX7_shift_113 : decode cX7_shift 113 = .ok (.getfield 25, 3) := by decide +kernel
theorem dX7_shift_116 : decode cX7_shift 116 = .ok (.aload_n 0, 1) := by decide +kernel
theorem dX7_shift_117 : decode cX7_shift 117 = .ok (.getfield 89, 3) := by decide +kernel
theorem dX7_shift_120 : decode cX7_shift 120 = .ok (.iconst (-1), 1) := by decide +kernel
theorem dX7_shift_121 : decode cX7_shift 121 = .ok (.iastore, 1) := by decide +kernel
theorem dX7_shift_122 : decode cX7_shift 122 = .ok (.aload_n 0, 1) := by decide +kernel
theorem dX7_shift_123 : decode cX7_shift 123 = .ok (.dup, 1) := by decide +kernel
theorem dX7_shift_124 : decode cX7_shift 124 = .ok (.getfield 89, 3) := by decide +kernel
theorem dX7_shift_127 : decode cX7_shift 127 = .ok (.iconst 1, 1) := by decide +kernel
theorem dX7_shift_128 : decode cX7_shift 128 = .ok (.iadd, 1) := by decide +kernel
theorem dX7_shift_129 : decode cX7_shift 129 = .ok (.putfield 89, 3) := by decide +kernel
theorem dX7_shift_132 : decode cX7_shift 132 = .ok (.aload_n 0, 1) := by decide +kernel
theorem dX7_shift_133 : decode cX7_shift 133 = .ok (.getfield 89, 3) := by decide +kernel
theorem dX7_shift_136 : decode cX7_shift 136 = .ok (.iconst 1, 1) := by decide +kernel
theorem dX7_shift_137 : decode cX7_shift 137 = .ok (.isub, 1) := by decide +kernel
theorem dX7_shift_138 : decode cX7_shift 138 = .ok (.ireturn, 1) := by decide +kernel
theorem dX7_canHold_0 : decode cX7_canHold 0 = .ok (.aload_n 0, 1) := by decide +kernel
theorem dX7_canHold_1 : decode cX7_canHold 1 = .ok (.getfield 7, 3) := by decide +kernel
theorem dX7_canHold_4 : decode cX7_canHold 4 = .ok (.iload_n 1, 1) := by decide +kernel
theorem dX7_canHold_5 : decode cX7_canHold 5 = .ok (.iaload, 1) := by decide +kernel
theorem dX7_canHold_6 : decode cX7_canHold 6 = .ok (.aload_n 0, 1) := by decide +kernel
theorem dX7_canHold_7 : decode cX7_canHold 7 = .ok (.getfield 22, 3) := by decide +kernel
theorem dX7_canHold_10 : decode cX7_canHold 10 = .ok (.iload_n 2, 1) := by decide +kernel
theorem dX7_canHold_11 : decode cX7_canHold 11 = .ok (.iaload, 1) := by decide +kernel
theorem dX7_canHold_12 : decode cX7_canHold 12 = .ok (.ishr, 1) := by decide +kernel
theorem dX7_canHold_13 : decode cX7_canHold 13 = .ok (.iconst 1, 1) := by decide +kernel
theorem dX7_canHold_14 : decode cX7_canHold 14 = .ok (.iand, 1) := by decide +kernel
theorem dX7_canHold_15 : decode cX7_canHold 15 = .ok (.iconst 1, 1) := by decide +kernel
theorem dX7_canHold_16 : decode cX7_canHold 16 = .ok (.if_icmp .ne 7, 3) := by decide +kernel
theorem dX7_canHold_19 : decode cX7_canHold 19 = .ok (.iconst 1, 1) := by decide +kernel
theorem dX7_canHold_20 : decode cX7_canHold 20 = .ok (.goto 4, 3) := by decide +kernel
theorem dX7_canHold_23 : decode cX7_canHold 23 = .ok (.iconst 0, 1) := by decide +kernel
theorem dX7_canHold_24 : decode cX7_canHold 24 = .ok (.istore 4, 2) := by decide +kernel
theorem dX7_canHold_26 : decode cX7_canHold 26 = .ok (.iconst 0, 1) := by decide +kernel
theorem dX7_canHold_27 : decode cX7_canHold 27 = .ok (.istore 5, 2) := by decide +kernel
theorem dX7_canHold_29 : decode cX7_canHold 29 = .ok (.iload 5, 2) := by decide +kernel
theorem dX7_canHold_31 : decode cX7_canHold 31 = .ok (.aload_n 0, 1) := by decide +kernel
theorem dX7_canHold_32 : decode cX7_canHold 32 = .ok (.getfield 89, 3) := by decide +kernel
theorem dX7_canHold_35 : decode cX7_canHold 35 = .ok (.if_icmp .ge 88, 3) := by decide +kernel
theorem dX7_canHold_38 : decode cX7_canHold 38 = .ok (.iload 5, 2) := by decide +kernel
theorem dX7_canHold_40 : decode cX7_canHold 40 = .ok (.iload_n 2, 1) := by decide +kernel
theorem dX7_canHold_41 : decode cX7_canHold 41 = .ok (.if_icmp .eq 24, 3) := by decide +kernel
theorem dX7_canHold_44 : decode cX7_canHold 44 = .ok (.iload 5, 2) := by decide +kernel
theorem dX7_canHold_46 : decode cX7_canHold 46 = .ok (.iload_n 3, 1) := by decide +kernel
theorem dX7_canHold_47 : decode cX7_canHold 47 = .ok (.if_icmp .eq 18, 3) := by decide +kernel
theorem dX7_canHold_50 : decode cX7_canHold 50 = .ok (.aload_n 0, 1) := by decide +kernel
theorem dX7_canHold_51 : decode cX7_canHold 51 = .ok (.getfield 25, 3) := by decide +kernel
theorem dX7_canHold_54 : decode cX7_canHold 54 = .ok (.iload 5, 2) := by decide +kernel
theorem dX7_canHold_56 : decode cX7_canHold 56 = .ok (.iaload, 1) := by decide +kernel
theorem dX7_canHold_57 : decode cX7_canHold 57 = .ok (.iload_n 1, 1) := by decide +kernel
theorem dX7_canHold_58 : decode cX7_canHold 58 = .ok (.if_icmp .ne 7, 3) := by decide +kernel
theorem dX7_canHold_61 : decode cX7_canHold 61 = .ok (.iconst 1, 1) := by decide +kernel
theorem dX7_canHold_62 : decode cX7_canHold 62 = .ok (.goto 4, 3) := by decide +kernel
theorem dX7_canHold_65 : decode cX7_canHold 65 = .ok (.iconst 0, 1) := by decide +kernel
theorem dX7_canHold_66 : decode cX7_canHold 66 = .ok (.istore 6, 2) := by decide +kernel
theorem dX7_canHold_68 : decode cX7_canHold 68 = .ok (.iload 4, 2) := by decide +kernel
theorem dX7_canHold_70 : decode cX7_canHold 70 = .ok (.ifCond .eq 44, 3) := by decide +kernel
theorem dX7_canHold_73 : decode cX7_canHold 73 = .ok (.iload 6, 2) := by decide +kernel
theorem dX7_canHold_75 : decode cX7_canHold 75 = .ok (.ifCond .eq 35, 3) := by decide +kernel
theorem dX7_canHold_78 : decode cX7_canHold 78 = .ok (.aload_n 0, 1) := by decide +kernel
theorem dX7_canHold_79 : decode cX7_canHold 79 = .ok (.getfield 16, 3) := by decide +kernel
theorem dX7_canHold_82 : decode cX7_canHold 82 = .ok (.iload 5, 2) := by decide +kernel
theorem dX7_canHold_84 : decode cX7_canHold 84 = .ok (.iaload, 1) := by decide +kernel
theorem dX7_canHold_85 : decode cX7_canHold 85 = .ok (.aload_n 0, 1) := by decide +kernel
theorem dX7_canHold_86 : decode cX7_canHold 86 = .ok (.getfield 19, 3) := by decide +kernel
theorem dX7_canHold_89 : decode cX7_canHold 89 = .ok (.iload_n 2, 1) := by decide +kernel
theorem dX7_canHold_90 : decode cX7_canHold 90 = .ok (.iaload, 1) := by decide +kernel
theorem dX7_canHold_91 : decode cX7_canHold 91 = .ok (.if_icmp .ge 19, 3) := by decide +kernel
theorem dX7_canHold_94 : decode cX7_canHold 94 = .ok (.aload_n 0, 1) := by decide +kernel
theorem dX7_canHold_95 : decode cX7_canHold 95 = .ok (.getfield 16, 3) := by decide +kernel
theorem dX7_canHold_98 : decode cX7_canHold 98 = .ok (.iload_n 2, 1) := by decide +kernel
theorem dX7_canHold_99 : decode cX7_canHold 99 = .ok (.iaload, 1) := by decide +kernel
theorem dX7_canHold_100 : decode cX7_canHold 100 = .ok (.aload_n 0, 1) := by decide +kernel
theorem dX7_canHold_101 : decode cX7_canHold 101 = .ok (.getfield 19, 3) := by decide +kernel
theorem dX7_canHold_104 : decode cX7_canHold 104 = .ok (.iload 5, 2) := by decide +kernel
theorem dX7_canHold_106 : decode cX7_canHold 106 = .ok (.iaload, 1) := by decide +kernel
theorem dX7_canHold_107 : decode cX7_canHold 107 = .ok (.if_icmp .lt 7, 3) := by decide +kernel
theorem dX7_canHold_110 : decode cX7_canHold 110 = .ok (.iconst 1, 1) := by decide +kernel
theorem dX7_canHold_111 : decode cX7_canHold 111 = .ok (.goto 4, 3) := by decide +kernel
theorem dX7_canHold_114 : decode cX7_canHold 114 = .ok (.iconst 0, 1) := by decide +kernel
theorem dX7_canHold_115 : decode cX7_canHold 115 = .ok (.istore 4, 2) := by decide +kernel
theorem dX7_canHold_117 : decode cX7_canHold 117 = .ok (.iinc 5 1, 3) := by decide +kernel
theorem dX7_canHold_120 : decode cX7_canHold 120 = .ok (.goto (-91), 3) := by decide +kernel
theorem dX7_canHold_123 : decode cX7_canHold 123 = .ok (.iload 4, 2) := by decide +kernel
theorem dX7_canHold_125 : decode cX7_canHold 125 = .ok (.ireturn, 1) := by decide +kernel
theorem dX7_giveTo_0 : decode cX7_giveTo 0 = .ok (.aload_n 0, 1) := by decide +kernel
theorem dX7_giveTo_1 : decode cX7_giveTo 1 = .ok (.getfield 25, 3) := by decide +kernel
theorem dX7_giveTo_4 : decode cX7_giveTo 4 = .ok (.iload_n 1, 1) := by decide +kernel
theorem dX7_giveTo_5 : decode cX7_giveTo 5 = .ok (.iaload, 1) := by decide +kernel
theorem dX7_giveTo_6 : decode cX7_giveTo 6 = .ok (.iload_n 2, 1) := by decide +kernel
theorem dX7_giveTo_7 : decode cX7_giveTo 7 = .ok (.if_icmp .eq 59, 3) := by decide +kernel
theorem dX7_giveTo_10 : decode cX7_giveTo 10 = .ok (.iconst 0, 1) := by decide +kernel
theorem dX7_giveTo_11 : decode cX7_giveTo 11 = .ok (.istore_n 3, 1) := by decide +kernel
theorem dX7_giveTo_12 : decode cX7_giveTo 12 = .ok (.iload_n 3, 1) := by decide +kernel
theorem dX7_giveTo_13 : decode cX7_giveTo 13 = .ok (.aload_n 0, 1) := by decide +kernel
theorem dX7_giveTo_14 : decode cX7_giveTo 14 = .ok (.getfield 98, 3) := by decide +kernel
theorem dX7_giveTo_17 : decode cX7_giveTo 17 = .ok (.if_icmp .ge 49, 3) := by decide +kernel
theorem dX7_giveTo_20 : decode cX7_giveTo 20 = .ok (.aload_n 0, 1) := by decide +kernel
theorem dX7_giveTo_21 : decode cX7_giveTo 21 = .ok (.getfield 75, 3) := by decide +kernel
theorem dX7_giveTo_24 : decode cX7_giveTo 24 = .ok (.iload_n 3, 1) := by decide +kernel
theorem dX7_giveTo_25 : decode cX7_giveTo 25 = .ok (.aload_n 0, 1) := by decide +kernel
theorem dX7_giveTo_26 : decode cX7_giveTo 26 = .ok (.getfield 75, 3) := by decide +kernel
theorem dX7_giveTo_29 : decode cX7_giveTo 29 = .ok (.iload_n 3, 1) := by decide +kernel
theorem dX7_giveTo_30 : decode cX7_giveTo 30 = .ok (.baload, 1) := by decide +kernel
theorem dX7_giveTo_31 : decode cX7_giveTo 31 = .ok (.ifCond .eq 27, 3) := by decide +kernel
theorem dX7_giveTo_34 : decode cX7_giveTo 34 = .ok (.aload_n 0, 1) := by decide +kernel
theorem dX7_giveTo_35 : decode cX7_giveTo 35 = .ok (.getfield 69, 3) := by decide +kernel
theorem dX7_giveTo_38 : decode cX7_giveTo 38 = .ok (.iload_n 3, 1) := by decide +kernel
theorem dX7_giveTo_39 : decode cX7_giveTo 39 = .ok (.iaload, 1) := by decide +kernel
theorem dX7_giveTo_40 : decode cX7_giveTo 40 = .ok (.iload_n 1, 1) := by decide +kernel
theorem dX7_giveTo_41 : decode cX7_giveTo 41 = .ok (.if_icmp .eq 17, 3) := by decide +kernel
theorem dX7_giveTo_44 : decode cX7_giveTo 44 = .ok (.aload_n 0, 1) := by decide +kernel
theorem dX7_giveTo_45 : decode cX7_giveTo 45 = .ok (.getfield 72, 3) := by decide +kernel
theorem dX7_giveTo_48 : decode cX7_giveTo 48 = .ok (.iload_n 3, 1) := by decide +kernel
theorem dX7_giveTo_49 : decode cX7_giveTo 49 = .ok (.iaload, 1) := by decide +kernel
theorem dX7_giveTo_50 : decode cX7_giveTo 50 = .ok (.iload_n 1, 1) := by decide +kernel
theorem dX7_giveTo_51 : decode cX7_giveTo 51 = .ok (.if_icmp .eq 7, 3) := by decide +kernel
theorem dX7_giveTo_54 : decode cX7_giveTo 54 = .ok (.iconst 1, 1) := by decide +kernel
theorem dX7_giveTo_55 : decode cX7_giveTo 55 = .ok (.goto 4, 3) := by decide +kernel
theorem dX7_giveTo_58 : decode cX7_giveTo 58 = .ok (.iconst 0, 1) := by decide +kernel
theorem dX7_giveTo_59 : decode cX7_giveTo 59 = .ok (.bastore, 1) := by decide +kernel
theorem dX7_giveTo_60 : decode cX7_giveTo 60 = .ok (.iinc 3 1, 3) := by decide +kernel
theorem dX7_giveTo_63 : decode cX7_giveTo 63 = .ok (.goto (-51), 3) := by decide +kernel
theorem dX7_giveTo_66 : decode cX7_giveTo 66 = .ok (.aload_n 0, 1) := by decide +kernel
theorem dX7_giveTo_67 : decode cX7_giveTo 67 = .ok (.getfield 25, 3) := by decide +kernel
theorem dX7_giveTo_70 : decode cX7_giveTo 70 = .ok (.iload_n 1, 1) := by decide +kernel
theorem dX7_giveTo_71 : decode cX7_giveTo 71 = .ok (.iload_n 2, 1) := by decide +kernel
theorem dX7_giveTo_72 : decode cX7_giveTo 72 = .ok (.iastore, 1) := by decide +kernel
theorem dX7_giveTo_73 : decode cX7_giveTo 73 = .ok (.return_, 1) := by decide +kernel
theorem dX7_hold_0 : decode cX7_hold 0 = .ok (.aload_n 0, 1) := by decide +kernel
theorem dX7_hold_1 : decode cX7_hold 1 = .ok (.iload_n 1, 1) := by decide +kernel
theorem dX7_hold_2 : decode cX7_hold 2 = .ok (.invokevirtual 112, 3) := by decide +kernel
theorem dX7_hold_5 : decode cX7_hold 5 = .ok (.ifCond .eq 19, 3) := by decide +kernel
theorem dX7_hold_8 : decode cX7_hold 8 = .ok (.iload_n 2, 1) := by decide +kernel
theorem dX7_hold_9 : decode cX7_hold 9 = .ok (.iconst (-1), 1) := by decide +kernel
theorem dX7_hold_10 : decode cX7_hold 10 = .ok (.if_icmp .eq 10, 3) := by decide +kernel
theorem dX7_hold_13 : decode cX7_hold 13 = .ok (.iload_n 2, 1) := by decide +kernel
theorem dX7_hold_14 : decode cX7_hold 14 = .ok (.invokestatic 108, 3) := by decide +kernel
theorem dX7_hold_17 : decode cX7_hold 17 = .ok (.ifCond .eq 7, 3) := by decide +kernel
theorem dX7_hold_20 : decode cX7_hold 20 = .ok (.iconst 1, 1) := by decide +kernel
theorem dX7_hold_21 : decode cX7_hold 21 = .ok (.goto 4, 3) := by decide +kernel
theorem dX7_hold_24 : decode cX7_hold 24 = .ok (.iconst 0, 1) := by decide +kernel
theorem dX7_hold_25 : decode cX7_hold 25 = .ok (.istore_n 3, 1) := by decide +kernel
theorem dX7_hold_26 : decode cX7_hold 26 = .ok (.aload_n 0, 1) := by decide +kernel
theorem dX7_hold_27 : decode cX7_hold 27 = .ok (.iload_n 3, 1) := by decide +kernel
theorem dX7_hold_28 : decode cX7_hold 28 = .ok (.iload_n 3, 1) := by decide +kernel
theorem dX7_hold_29 : decode cX7_hold 29 = .ok (.ifCond .eq 22, 3) := by decide +kernel
theorem dX7_hold_32 : decode cX7_hold 32 = .ok (.iload_n 2, 1) := by decide +kernel
theorem dX7_hold_33 : decode cX7_hold 33 = .ok (.iconst (-1), 1) := by decide +kernel
theorem dX7_hold_34 : decode cX7_hold 34 = .ok (.if_icmp .eq 13, 3) := by decide +kernel
theorem dX7_hold_37 : decode cX7_hold 37 = .ok (.aload_n 0, 1) := by decide +kernel
theorem dX7_hold_38 : decode cX7_hold 38 = .ok (.iload_n 2, 1) := by decide +kernel
theorem dX7_hold_39 : decode cX7_hold 39 = .ok (.iload_n 1, 1) := by decide +kernel
theorem dX7_hold_40 : decode cX7_hold 40 = .ok (.iconst (-1), 1) := by decide +kernel
theorem dX7_hold_41 : decode cX7_hold 41 = .ok (.invokevirtual 115, 3) := by decide +kernel
theorem dX7_hold_44 : decode cX7_hold 44 = .ok (.ifCond .eq 7, 3) := by decide +kernel
theorem dX7_hold_47 : decode cX7_hold 47 = .ok (.iconst 1, 1) := by decide +kernel
theorem dX7_hold_48 : decode cX7_hold 48 = .ok (.goto 4, 3) := by decide +kernel
theorem dX7_hold_51 : decode cX7_hold 51 = .ok (.iconst 0, 1) := by decide +kernel
theorem dX7_hold_52 : decode cX7_hold 52 = .ok (.invokevirtual 104, 3) := by decide +kernel
theorem dX7_hold_55 : decode cX7_hold 55 = .ok (.ifCond .ne 5, 3) := by decide +kernel
theorem dX7_hold_58 : decode cX7_hold 58 = .ok (.iconst 0, 1) := by decide +kernel
theorem dX7_hold_59 : decode cX7_hold 59 = .ok (.ireturn, 1) := by decide +kernel
theorem dX7_hold_60 : decode cX7_hold 60 = .ok (.aload_n 0, 1) := by decide +kernel
theorem dX7_hold_61 : decode cX7_hold 61 = .ok (.getfield 25, 3) := by decide +kernel
theorem dX7_hold_64 : decode cX7_hold 64 = .ok (.iload_n 1, 1) := by decide +kernel
theorem dX7_hold_65 : decode cX7_hold 65 = .ok (.iaload, 1) := by decide +kernel
theorem dX7_hold_66 : decode cX7_hold 66 = .ok (.istore 4, 2) := by decide +kernel
theorem dX7_hold_68 : decode cX7_hold 68 = .ok (.aload_n 0, 1) := by decide +kernel
theorem dX7_hold_69 : decode cX7_hold 69 = .ok (.iload_n 1, 1) := by decide +kernel
theorem dX7_hold_70 : decode cX7_hold 70 = .ok (.iload_n 2, 1) := by decide +kernel
theorem dX7_hold_71 : decode cX7_hold 71 = .ok (.invokevirtual 118, 3) := by decide +kernel
theorem dX7_hold_74 : decode cX7_hold 74 = .ok (.aload_n 0, 1) := by decide +kernel
theorem dX7_hold_75 : decode cX7_hold 75 = .ok (.invokevirtual 122, 3) := by decide +kernel
theorem dX7_hold_78 : decode cX7_hold 78 = .ok (.pop, 1) := by decide +kernel
theorem dX7_hold_79 : decode cX7_hold 79 = .ok (.iload 4, 2) := by decide +kernel
theorem dX7_hold_81 : decode cX7_hold 81 = .ok (.ireturn, 1) := by decide +kernel
theorem dX7_stamp_0 : decode cX7_stamp 0 = .ok (.aload_n 0, 1) := by decide +kernel
theorem dX7_stamp_1 : decode cX7_stamp 1 = .ok (.iload_n 1, 1) := by decide +kernel
theorem dX7_stamp_2 : decode cX7_stamp 2 = .ok (.invokevirtual 112, 3) := by decide +kernel
theorem dX7_stamp_5 : decode cX7_stamp 5 = .ok (.istore 4, 2) := by decide +kernel
theorem dX7_stamp_7 : decode cX7_stamp 7 = .ok (.iload_n 2, 1) := by decide +kernel
theorem dX7_stamp_8 : decode cX7_stamp 8 = .ok (.ifCond .lt 36, 3) := by decide +kernel
theorem dX7_stamp_11 : decode cX7_stamp 11 = .ok (.iload_n 2, 1) := by decide +kernel
theorem dX7_stamp_12 : decode cX7_stamp 12 = .ok (.aload_n 0, 1) := by decide +kernel
theorem dX7_stamp_13 : decode cX7_stamp 13 = .ok (.getfield 101, 3) := by decide +kernel
theorem dX7_stamp_16 : decode cX7_stamp 16 = .ok (.if_icmp .gt 28, 3) := by decide +kernel
theorem dX7_stamp_19 : decode cX7_stamp 19 = .ok (.iload_n 3, 1) := by decide +kernel
theorem dX7_stamp_20 : decode cX7_stamp 20 = .ok (.iload_n 2, 1) := by decide +kernel
theorem dX7_stamp_21 : decode cX7_stamp 21 = .ok (.if_icmp .le 23, 3) := by decide +kernel
theorem dX7_stamp_24 : decode cX7_stamp 24 = .ok (.iload_n 3, 1) := by decide +kernel
theorem dX7_stamp_25 : decode cX7_stamp 25 = .ok (.iload_n 2, 1) := by decide +kernel
theorem dX7_stamp_26 : decode cX7_stamp 26 = .ok (.bipush 24, 2) := by decide +kernel
theorem dX7_stamp_28 : decode cX7_stamp 28 = .ok (.iadd, 1) := by decide +kernel
theorem dX7_stamp_29 : decode cX7_stamp 29 = .ok (.if_icmp .gt 15, 3) := by decide +kernel
theorem dX7_stamp_32 : decode cX7_stamp 32 = .ok (.iload_n 3, 1) := by decide +kernel
theorem dX7_stamp_33 : decode cX7_stamp 33 = .ok (.aload_n 0, 1) := by decide +kernel
theorem dX7_stamp_34 : decode cX7_stamp 34 = .ok (.getfield 101, 3) := by decide +kernel
theorem dX7_stamp_37 : decode cX7_stamp 37 = .ok (.if_icmp .gt 7, 3) := by decide +kernel
theorem dX7_stamp_40 : decode cX7_stamp 40 = .ok (.iconst 1, 1) := by decide +kernel
theorem dX7_stamp_41 : decode cX7_stamp 41 = .ok (.goto 4, 3) := by decide +kernel
theorem dX7_stamp_44 : decode cX7_stamp 44 = .ok (.iconst 0, 1) := by decide +kernel
theorem dX7_stamp_45 : decode cX7_stamp 45 = .ok (.istore 5, 2) := by decide +kernel
theorem dX7_stamp_47 : decode cX7_stamp 47 = .ok (.aload_n 0, 1) := by decide +kernel
theorem dX7_stamp_48 : decode cX7_stamp 48 = .ok (.iload 4, 2) := by decide +kernel
theorem dX7_stamp_50 : decode cX7_stamp 50 = .ok (.iload 5, 2) := by decide +kernel
theorem dX7_stamp_52 : decode cX7_stamp 52 = .ok (.iload 4, 2) := by decide +kernel
theorem dX7_stamp_54 : decode cX7_stamp 54 = .ok (.ifCond .eq 33, 3) := by decide +kernel
theorem dX7_stamp_57 : decode cX7_stamp 57 = .ok (.aload_n 0, 1) := by decide +kernel
theorem dX7_stamp_58 : decode cX7_stamp 58 = .ok (.getfield 25, 3) := by decide +kernel
theorem dX7_stamp_61 : decode cX7_stamp 61 = .ok (.iload_n 1, 1) := by decide +kernel
theorem dX7_stamp_62 : decode cX7_stamp 62 = .ok (.iaload, 1) := by decide +kernel
theorem dX7_stamp_63 : decode cX7_stamp 63 = .ok (.iconst (-1), 1) := by decide +kernel
theorem dX7_stamp_64 : decode cX7_stamp 64 = .ok (.if_icmp .eq 23, 3) := by decide +kernel
theorem dX7_stamp_67 : decode cX7_stamp 67 = .ok (.aload_n 0, 1) := by decide +kernel
theorem dX7_stamp_68 : decode cX7_stamp 68 = .ok (.getfield 101, 3) := by decide +kernel
theorem dX7_stamp_71 : decode cX7_stamp 71 = .ok (.aload_n 0, 1) := by decide +kernel
theorem dX7_stamp_72 : decode cX7_stamp 72 = .ok (.getfield 19, 3) := by decide +kernel
theorem dX7_stamp_75 : decode cX7_stamp 75 = .ok (.iload_n 1, 1) := by decide +kernel
theorem dX7_stamp_76 : decode cX7_stamp 76 = .ok (.iaload, 1) := by decide +kernel
theorem dX7_stamp_77 : decode cX7_stamp 77 = .ok (.bipush 100, 2) := by decide +kernel
theorem dX7_stamp_79 : decode cX7_stamp 79 = .ok (.iadd, 1) := by decide +kernel
theorem dX7_stamp_80 : decode cX7_stamp 80 = .ok (.if_icmp .gt 7, 3) := by decide +kernel
theorem dX7_stamp_83 : decode cX7_stamp 83 = .ok (.iconst 1, 1) := by decide +kernel
theorem dX7_stamp_84 : decode cX7_stamp 84 = .ok (.goto 4, 3) := by decide +kernel
theorem dX7_stamp_87 : decode cX7_stamp 87 = .ok (.iconst 0, 1) := by decide +kernel
theorem dX7_stamp_88 : decode cX7_stamp 88 = .ok (.invokevirtual 126, 3) := by decide +kernel
theorem dX7_stamp_91 : decode cX7_stamp 91 = .ok (.ifCond .ne 5, 3) := by decide +kernel
theorem dX7_stamp_94 : decode cX7_stamp 94 = .ok (.iconst 0, 1) := by decide +kernel
theorem dX7_stamp_95 : decode cX7_stamp 95 = .ok (.ireturn, 1) := by decide +kernel
theorem dX7_stamp_96 : decode cX7_stamp 96 = .ok (.aload_n 0, 1) := by decide +kernel
theorem dX7_stamp_97 : decode cX7_stamp 97 = .ok (.getfield 28, 3) := by decide +kernel
theorem dX7_stamp_100 : decode cX7_stamp 100 = .ok (.iload_n 1, 1) := by decide +kernel
theorem dX7_stamp_101 : decode cX7_stamp 101 = .ok (.iload_n 2, 1) := by decide +kernel
theorem dX7_stamp_102 : decode cX7_stamp 102 = .ok (.iastore, 1) := by decide +kernel
theorem dX7_stamp_103 : decode cX7_stamp 103 = .ok (.aload_n 0, 1) := by decide +kernel
theorem dX7_stamp_104 : decode cX7_stamp 104 = .ok (.getfield 31, 3) := by decide +kernel
theorem dX7_stamp_107 : decode cX7_stamp 107 = .ok (.iload_n 1, 1) := by decide +kernel
theorem dX7_stamp_108 : decode cX7_stamp 108 = .ok (.iload_n 3, 1) := by decide +kernel
theorem dX7_stamp_109 : decode cX7_stamp 109 = .ok (.iastore, 1) := by decide +kernel
theorem dX7_stamp_110 : decode cX7_stamp 110 = .ok (.aload_n 0, 1) := by decide +kernel
theorem dX7_stamp_111 : decode cX7_stamp 111 = .ok (.invokevirtual 122, 3) := by decide +kernel
theorem dX7_stamp_114 : decode cX7_stamp 114 = .ok (.pop, 1) := by decide +kernel
theorem dX7_stamp_115 : decode cX7_stamp 115 = .ok (.iload_n 3, 1) := by decide +kernel
theorem dX7_stamp_116 : decode cX7_stamp 116 = .ok (.iload_n 2, 1) := by decide +kernel
theorem dX7_stamp_117 : decode cX7_stamp 117 = .ok (.isub, 1) := by decide +kernel
theorem dX7_stamp_118 : decode cX7_stamp 118 = .ok (.aload_n 0, 1) := by decide +kernel
theorem dX7_stamp_119 : decode cX7_stamp 119 = .ok (.getfield 19, 3) := by decide +kernel
theorem dX7_stamp_122 : decode cX7_stamp 122 = .ok (.iload_n 1, 1) := by decide +kernel
theorem dX7_stamp_123 : decode cX7_stamp 123 = .ok (.iaload, 1) := by decide +kernel
theorem dX7_stamp_124 : decode cX7_stamp 124 = .ok (.aload_n 0, 1) := by decide +kernel
theorem dX7_stamp_125 : decode cX7_stamp 125 = .ok (.getfield 16, 3) := by decide +kernel
theorem dX7_stamp_128 : decode cX7_stamp 128 = .ok (.iload_n 1, 1) := by decide +kernel
theorem dX7_stamp_129 : decode cX7_stamp 129 = .ok (.iaload, 1) := by decide +kernel
theorem dX7_stamp_130 : decode cX7_stamp 130 = .ok (.isub, 1) := by decide +kernel
theorem dX7_stamp_131 : decode cX7_stamp 131 = .ok (.isub, 1) := by decide +kernel
theorem dX7_stamp_132 : decode cX7_stamp 132 = .ok (.ireturn, 1) := by decide +kernel
theorem dX7_holder_0 : decode cX7_holder 0 = .ok (.aload_n 0, 1) := by decide +kernel
theorem dX7_holder_1 : decode cX7_holder 1 = .ok (.aload_n 0, 1) := by decide +kernel
theorem dX7_holder_2 : decode cX7_holder 2 = .ok (.iload_n 1, 1) := by decide +kernel
theorem dX7_holder_3 : decode cX7_holder 3 = .ok (.invokevirtual 112, 3) := by decide +kernel
theorem dX7_holder_6 : decode cX7_holder 6 = .ok (.invokevirtual 130, 3) := by decide +kernel
theorem dX7_holder_9 : decode cX7_holder 9 = .ok (.ifCond .eq 12, 3) := by decide +kernel
theorem dX7_holder_12 : decode cX7_holder 12 = .ok (.aload_n 0, 1) := by decide +kernel
theorem dX7_holder_13 : decode cX7_holder 13 = .ok (.getfield 25, 3) := by decide +kernel
theorem dX7_holder_16 : decode cX7_holder 16 = .ok (.iload_n 1, 1) := by decide +kernel
theorem dX7_holder_17 : decode cX7_holder 17 = .ok (.iaload, 1) := by decide +kernel
theorem dX7_holder_18 : decode cX7_holder 18 = .ok (.goto 4, 3) := by decide +kernel
theorem dX7_holder_21 : decode cX7_holder 21 = .ok (.iconst 0, 1) := by decide +kernel
theorem dX7_holder_22 : decode cX7_holder 22 = .ok (.ireturn, 1) := by decide +kernel
theorem dX7_isAhead_0 : decode cX7_isAhead 0 = .ok (.aload_n 0, 1) := by decide +kernel
theorem dX7_isAhead_1 : decode cX7_isAhead 1 = .ok (.getfield 25, 3) := by decide +kernel
theorem dX7_isAhead_4 : decode cX7_isAhead 4 = .ok (.iload_n 1, 1) := by decide +kernel
theorem dX7_isAhead_5 : decode cX7_isAhead 5 = .ok (.iaload, 1) := by decide +kernel
theorem dX7_isAhead_6 : decode cX7_isAhead 6 = .ok (.aload_n 0, 1) := by decide +kernel
theorem dX7_isAhead_7 : decode cX7_isAhead 7 = .ok (.getfield 25, 3) := by decide +kernel
theorem dX7_isAhead_10 : decode cX7_isAhead 10 = .ok (.iload_n 2, 1) := by decide +kernel
theorem dX7_isAhead_11 : decode cX7_isAhead 11 = .ok (.iaload, 1) := by decide +kernel
theorem dX7_isAhead_12 : decode cX7_isAhead 12 = .ok (.if_icmp .ne 42, 3) := by decide +kernel
theorem dX7_isAhead_15 : decode cX7_isAhead 15 = .ok (.aload_n 0, 1) := by decide +kernel
theorem dX7_isAhead_16 : decode cX7_isAhead 16 = .ok (.getfield 28, 3) := by decide +kernel
theorem dX7_isAhead_19 : decode cX7_isAhead 19 = .ok (.iload_n 1, 1) := by decide +kernel
theorem dX7_isAhead_20 : decode cX7_isAhead 20 = .ok (.iaload, 1) := by decide +kernel
theorem dX7_isAhead_21 : decode cX7_isAhead 21 = .ok (.aload_n 0, 1) := by decide +kernel
theorem dX7_isAhead_22 : decode cX7_isAhead 22 = .ok (.getfield 28, 3) := by decide +kernel
theorem dX7_isAhead_25 : decode cX7_isAhead 25 = .ok (.iload_n 2, 1) := by decide +kernel
theorem dX7_isAhead_26 : decode cX7_isAhead 26 = .ok (.iaload, 1) := by decide +kernel
theorem dX7_isAhead_27 : decode cX7_isAhead 27 = .ok (.if_icmp .lt 23, 3) := by decide +kernel
theorem dX7_isAhead_30 : decode cX7_isAhead 30 = .ok (.aload_n 0, 1) := by decide +kernel
theorem dX7_isAhead_31 : decode cX7_isAhead 31 = .ok (.getfield 28, 3) := by decide +kernel
theorem dX7_isAhead_34 : decode cX7_isAhead 34 = .ok (.iload_n 1, 1) := by decide +kernel
theorem dX7_isAhead_35 : decode cX7_isAhead 35 = .ok (.iaload, 1) := by decide +kernel
theorem dX7_isAhead_36 : decode cX7_isAhead 36 = .ok (.aload_n 0, 1) := by decide +kernel
theorem dX7_isAhead_37 : decode cX7_isAhead 37 = .ok (.getfield 28, 3) := by decide +kernel
theorem dX7_isAhead_40 : decode cX7_isAhead 40 = .ok (.iload_n 2, 1) := by decide +kernel
theorem dX7_isAhead_41 : decode cX7_isAhead 41 = .ok (.iaload, 1) := by decide +kernel
theorem dX7_isAhead_42 : decode cX7_isAhead 42 = .ok (.if_icmp .ne 12, 3) := by decide +kernel
theorem dX7_isAhead_45 : decode cX7_isAhead 45 = .ok (.iload_n 1, 1) := by decide +kernel
theorem dX7_isAhead_46 : decode cX7_isAhead 46 = .ok (.iload_n 2, 1) := by decide +kernel
theorem dX7_isAhead_47 : decode cX7_isAhead 47 = .ok (.if_icmp .ge 7, 3) := by decide +kernel
theorem dX7_isAhead_50 : decode cX7_isAhead 50 = .ok (.iconst 1, 1) := by decide +kernel
theorem dX7_isAhead_51 : decode cX7_isAhead 51 = .ok (.goto 4, 3) := by decide +kernel
theorem dX7_isAhead_54 : decode cX7_isAhead 54 = .ok (.iconst 0, 1) := by decide +kernel
theorem dX7_isAhead_55 : decode cX7_isAhead 55 = .ok (.ireturn, 1) := by decide +kernel
theorem dX7_shiftOf_0 : decode cX7_shiftOf 0 = .ok (.iconst (-1), 1) := by decide +kernel
theorem dX7_shiftOf_1 : decode cX7_shiftOf 1 = .ok (.istore_n 3, 1) := by decide +kernel
theorem dX7_shiftOf_2 : decode cX7_shiftOf 2 = .ok (.iconst 0, 1) := by decide +kernel
theorem dX7_shiftOf_3 : decode cX7_shiftOf 3 = .ok (.istore 4, 2) := by decide +kernel
theorem dX7_shiftOf_5 : decode cX7_shiftOf 5 = .ok (.iload 4, 2) := by decide +kernel
theorem dX7_shiftOf_7 : decode cX7_shiftOf 7 = .ok (.aload_n 0, 1) := by decide +kernel
theorem dX7_shiftOf_8 : decode cX7_shiftOf 8 = .ok (.getfield 89, 3) := by decide +kernel
theorem dX7_shiftOf_11 : decode cX7_shiftOf 11 = .ok (.if_icmp .ge 82, 3) := by decide +kernel
theorem dX7_shiftOf_14 : decode cX7_shiftOf 14 = .ok (.iload_n 1, 1) := by decide +kernel
theorem dX7_shiftOf_15 : decode cX7_shiftOf 15 = .ok (.invokestatic 108, 3) := by decide +kernel
theorem dX7_shiftOf_18 : decode cX7_shiftOf 18 = .ok (.ifCond .eq 75, 3) := by decide +kernel
theorem dX7_shiftOf_21 : decode cX7_shiftOf 21 = .ok (.iconst 0, 1) := by decide +kernel
theorem dX7_shiftOf_22 : decode cX7_shiftOf 22 = .ok (.istore 5, 2) := by decide +kernel
theorem dX7_shiftOf_24 : decode cX7_shiftOf 24 = .ok (.iconst 0, 1) := by decide +kernel
theorem dX7_shiftOf_25 : decode cX7_shiftOf 25 = .ok (.istore 6, 2) := by decide +kernel
theorem dX7_shiftOf_27 : decode cX7_shiftOf 27 = .ok (.iload 6, 2) := by decide +kernel
theorem dX7_shiftOf_29 : decode cX7_shiftOf 29 = .ok (.aload_n 0, 1) := by decide +kernel
theorem dX7_shiftOf_30 : decode cX7_shiftOf 30 = .ok (.getfield 89, 3) := by decide +kernel
theorem dX7_shiftOf_33 : decode cX7_shiftOf 33 = .ok (.if_icmp .ge 30, 3) := by decide +kernel
theorem dX7_shiftOf_36 : decode cX7_shiftOf 36 = .ok (.iload 5, 2) := by decide +kernel
theorem dX7_shiftOf_38 : decode cX7_shiftOf 38 = .ok (.aload_n 0, 1) := by decide +kernel
theorem dX7_shiftOf_39 : decode cX7_shiftOf 39 = .ok (.iload 6, 2) := by decide +kernel
theorem dX7_shiftOf_41 : decode cX7_shiftOf 41 = .ok (.iload 4, 2) := by decide +kernel
theorem dX7_shiftOf_43 : decode cX7_shiftOf 43 = .ok (.invokevirtual 134, 3) := by decide +kernel
theorem dX7_shiftOf_46 : decode cX7_shiftOf 46 = .ok (.ifCond .eq 7, 3) := by decide +kernel
theorem dX7_shiftOf_49 : decode cX7_shiftOf 49 = .ok (.iconst 1, 1) := by decide +kernel
theorem dX7_shiftOf_50 : decode cX7_shiftOf 50 = .ok (.goto 4, 3) := by decide +kernel
theorem dX7_shiftOf_53 : decode cX7_shiftOf 53 = .ok (.iconst 0, 1) := by decide +kernel
theorem dX7_shiftOf_54 : decode cX7_shiftOf 54 = .ok (.iadd, 1) := by decide +kernel
theorem dX7_shiftOf_55 : decode cX7_shiftOf 55 = .ok (.istore 5, 2) := by decide +kernel
theorem dX7_shiftOf_57 : decode cX7_shiftOf 57 = .ok (.iinc 6 1, 3) := by decide +kernel
theorem dX7_shiftOf_60 : decode cX7_shiftOf 60 = .ok (.goto (-33), 3) := by decide +kernel
theorem dX7_shiftOf_63 : decode cX7_shiftOf 63 = .ok (.aload_n 0, 1) := by decide +kernel
theorem dX7_shiftOf_64 : decode cX7_shiftOf 64 = .ok (.getfield 25, 3) := by decide +kernel
theorem dX7_shiftOf_67 : decode cX7_shiftOf 67 = .ok (.iload 4, 2) := by decide +kernel
theorem dX7_shiftOf_69 : decode cX7_shiftOf 69 = .ok (.iaload, 1) := by decide +kernel
theorem dX7_shiftOf_70 : decode cX7_shiftOf 70 = .ok (.iload_n 1, 1) := by decide +kernel
theorem dX7_shiftOf_71 : decode cX7_shiftOf 71 = .ok (.if_icmp .ne 14, 3) := by decide +kernel
theorem dX7_shiftOf_74 : decode cX7_shiftOf 74 = .ok (.iload 5, 2) := by decide +kernel
theorem dX7_shiftOf_76 : decode cX7_shiftOf 76 = .ok (.iload_n 2, 1) := by decide +kernel
theorem dX7_shiftOf_77 : decode cX7_shiftOf 77 = .ok (.if_icmp .ne 8, 3) := by decide +kernel
theorem dX7_shiftOf_80 : decode cX7_shiftOf 80 = .ok (.iload 4, 2) := by decide +kernel
theorem dX7_shiftOf_82 : decode cX7_shiftOf 82 = .ok (.goto 4, 3) := by decide +kernel
theorem dX7_shiftOf_85 : decode cX7_shiftOf 85 = .ok (.iload_n 3, 1) := by decide +kernel
theorem dX7_shiftOf_86 : decode cX7_shiftOf 86 = .ok (.istore_n 3, 1) := by decide +kernel
theorem dX7_shiftOf_87 : decode cX7_shiftOf 87 = .ok (.iinc 4 1, 3) := by decide +kernel
theorem dX7_shiftOf_90 : decode cX7_shiftOf 90 = .ok (.goto (-85), 3) := by decide +kernel
theorem dX7_shiftOf_93 : decode cX7_shiftOf 93 = .ok (.aload_n 0, 1) := by decide +kernel
theorem dX7_shiftOf_94 : decode cX7_shiftOf 94 = .ok (.iload_n 3, 1) := by decide +kernel
theorem dX7_shiftOf_95 : decode cX7_shiftOf 95 = .ok (.iconst (-1), 1) := by decide +kernel
theorem dX7_shiftOf_96 : decode cX7_shiftOf 96 = .ok (.if_icmp .eq 7, 3) := by decide +kernel
theorem dX7_shiftOf_99 : decode cX7_shiftOf 99 = .ok (.iconst 1, 1) := by decide +kernel
theorem dX7_shiftOf_100 : decode cX7_shiftOf 100 = .ok (.goto 4, 3) := by decide +kernel
theorem dX7_shiftOf_103 : decode cX7_shiftOf 103 = .ok (.iconst 0, 1) := by decide +kernel
theorem dX7_shiftOf_104 : decode cX7_shiftOf 104 = .ok (.invokevirtual 130, 3) := by decide +kernel
theorem dX7_shiftOf_107 : decode cX7_shiftOf 107 = .ok (.ifCond .eq 7, 3) := by decide +kernel
theorem dX7_shiftOf_110 : decode cX7_shiftOf 110 = .ok (.iload_n 3, 1) := by decide +kernel
theorem dX7_shiftOf_111 : decode cX7_shiftOf 111 = .ok (.goto 4, 3) := by decide +kernel
theorem dX7_shiftOf_114 : decode cX7_shiftOf 114 = .ok (.iconst 0, 1) := by decide +kernel
theorem dX7_shiftOf_115 : decode cX7_shiftOf 115 = .ok (.ireturn, 1) := by decide +kernel
theorem dX7_justAhead_0 : decode cX7_justAhead 0 = .ok (.iconst (-1), 1) := by decide +kernel
theorem dX7_justAhead_1 : decode cX7_justAhead 1 = .ok (.istore_n 2, 1) := by decide +kernel
theorem dX7_justAhead_2 : decode cX7_justAhead 2 = .ok (.iconst 0, 1) := by decide +kernel
theorem dX7_justAhead_3 : decode cX7_justAhead 3 = .ok (.istore_n 3, 1) := by decide +kernel
theorem dX7_justAhead_4 : decode cX7_justAhead 4 = .ok (.iload_n 3, 1) := by decide +kernel
theorem dX7_justAhead_5 : decode cX7_justAhead 5 = .ok (.aload_n 0, 1) := by decide +kernel
theorem dX7_justAhead_6 : decode cX7_justAhead 6 = .ok (.getfield 89, 3) := by decide +kernel
theorem dX7_justAhead_9 : decode cX7_justAhead 9 = .ok (.if_icmp .ge 38, 3) := by decide +kernel
theorem dX7_justAhead_12 : decode cX7_justAhead 12 = .ok (.aload_n 0, 1) := by decide +kernel
theorem dX7_justAhead_13 : decode cX7_justAhead 13 = .ok (.iload_n 3, 1) := by decide +kernel
theorem dX7_justAhead_14 : decode cX7_justAhead 14 = .ok (.iload_n 1, 1) := by decide +kernel
theorem dX7_justAhead_15 : decode cX7_justAhead 15 = .ok (.invokevirtual 134, 3) := by decide +kernel
theorem dX7_justAhead_18 : decode cX7_justAhead 18 = .ok (.ifCond .eq 23, 3) := by decide +kernel
theorem dX7_justAhead_21 : decode cX7_justAhead 21 = .ok (.iload_n 2, 1) := by decide +kernel
theorem dX7_justAhead_22 : decode cX7_justAhead 22 = .ok (.iconst (-1), 1) := by decide +kernel
theorem dX7_justAhead_23 : decode cX7_justAhead 23 = .ok (.if_icmp .eq 12, 3) := by decide +kernel
theorem dX7_justAhead_26 : decode cX7_justAhead 26 = .ok (.aload_n 0, 1) := by decide +kernel
theorem dX7_justAhead_27 : decode cX7_justAhead 27 = .ok (.iload_n 2, 1) := by decide +kernel
theorem dX7_justAhead_28 : decode cX7_justAhead 28 = .ok (.iload_n 3, 1) := by decide +kernel
theorem dX7_justAhead_29 : decode cX7_justAhead 29 = .ok (.invokevirtual 134, 3) := by decide +kernel
theorem dX7_justAhead_32 : decode cX7_justAhead 32 = .ok (.ifCond .eq 7, 3) := by decide +kernel
theorem dX7_justAhead_35 : decode cX7_justAhead 35 = .ok (.iload_n 3, 1) := by decide +kernel
theorem dX7_justAhead_36 : decode cX7_justAhead 36 = .ok (.goto 4, 3) := by decide +kernel
theorem dX7_justAhead_39 : decode cX7_justAhead 39 = .ok (.iload_n 2, 1) := by decide +kernel
theorem dX7_justAhead_40 : decode cX7_justAhead 40 = .ok (.istore_n 2, 1) := by decide +kernel
theorem dX7_justAhead_41 : decode cX7_justAhead 41 = .ok (.iinc 3 1, 3) := by decide +kernel
theorem dX7_justAhead_44 : decode cX7_justAhead 44 = .ok (.goto (-40), 3) := by decide +kernel
theorem dX7_justAhead_47 : decode cX7_justAhead 47 = .ok (.iload_n 2, 1) := by decide +kernel
theorem dX7_justAhead_48 : decode cX7_justAhead 48 = .ok (.ireturn, 1) := by decide +kernel
theorem dX7_rest_0 : decode cX7_rest 0 = .ok (.aload_n 0, 1) := by decide +kernel
theorem dX7_rest_1 : decode cX7_rest 1 = .ok (.aload_n 0, 1) := by decide +kernel
theorem dX7_rest_2 : decode cX7_rest 2 = .ok (.iload_n 1, 1) := by decide +kernel
theorem dX7_rest_3 : decode cX7_rest 3 = .ok (.invokevirtual 112, 3) := by decide +kernel
theorem dX7_rest_6 : decode cX7_rest 6 = .ok (.invokevirtual 130, 3) := by decide +kernel
theorem dX7_rest_9 : decode cX7_rest 9 = .ok (.ifCond .ne 5, 3) := by decide +kernel
theorem dX7_rest_12 : decode cX7_rest 12 = .ok (.iconst 0, 1) := by decide +kernel
theorem dX7_rest_13 : decode cX7_rest 13 = .ok (.ireturn, 1) := by decide +kernel
theorem dX7_rest_14 : decode cX7_rest 14 = .ok (.aload_n 0, 1) := by decide +kernel
theorem dX7_rest_15 : decode cX7_rest 15 = .ok (.getfield 25, 3) := by decide +kernel
theorem dX7_rest_18 : decode cX7_rest 18 = .ok (.iload_n 1, 1) := by decide +kernel
theorem dX7_rest_19 : decode cX7_rest 19 = .ok (.iaload, 1) := by decide +kernel
theorem dX7_rest_20 : decode cX7_rest 20 = .ok (.iconst (-1), 1) := by decide +kernel
theorem dX7_rest_21 : decode cX7_rest 21 = .ok (.if_icmp .ne 7, 3) := by decide +kernel
theorem dX7_rest_24 : decode cX7_rest 24 = .ok (.iconst (-1), 1) := by decide +kernel
theorem dX7_rest_25 : decode cX7_rest 25 = .ok (.goto 8, 3) := by decide +kernel
theorem dX7_rest_28 : decode cX7_rest 28 = .ok (.aload_n 0, 1) := by decide +kernel
theorem dX7_rest_29 : decode cX7_rest 29 = .ok (.iload_n 1, 1) := by decide +kernel
theorem dX7_rest_30 : decode cX7_rest 30 = .ok (.invokevirtual 138, 3) := by decide +kernel
theorem dX7_rest_33 : decode cX7_rest 33 = .ok (.istore_n 2, 1) := by decide +kernel
theorem dX7_rest_34 : decode cX7_rest 34 = .ok (.iload_n 2, 1) := by decide +kernel
theorem dX7_rest_35 : decode cX7_rest 35 = .ok (.iconst (-1), 1) := by decide +kernel
theorem dX7_rest_36 : decode cX7_rest 36 = .ok (.if_icmp .ne 9, 3) := by decide +kernel
theorem dX7_rest_39 : decode cX7_rest 39 = .ok (.sipush 10000, 3) := by decide +kernel
theorem dX7_rest_42 : decode cX7_rest 42 = .ok (.goto 16, 3) := by decide +kernel
theorem dX7_rest_45 : decode cX7_rest 45 = .ok (.aload_n 0, 1) := by decide +kernel
theorem dX7_rest_46 : decode cX7_rest 46 = .ok (.getfield 28, 3) := by decide +kernel
theorem dX7_rest_49 : decode cX7_rest 49 = .ok (.iload_n 1, 1) := by decide +kernel
theorem dX7_rest_50 : decode cX7_rest 50 = .ok (.iaload, 1) := by decide +kernel
theorem dX7_rest_51 : decode cX7_rest 51 = .ok (.aload_n 0, 1) := by decide +kernel
theorem dX7_rest_52 : decode cX7_rest 52 = .ok (.getfield 31, 3) := by decide +kernel
theorem dX7_rest_55 : decode cX7_rest 55 = .ok (.iload_n 2, 1) := by decide +kernel
theorem dX7_rest_56 : decode cX7_rest 56 = .ok (.iaload, 1) := by decide +kernel
theorem dX7_rest_57 : decode cX7_rest 57 = .ok (.isub, 1) := by decide +kernel
theorem dX7_rest_58 : decode cX7_rest 58 = .ok (.ireturn, 1) := by decide +kernel
theorem dX7_put_0 : decode cX7_put 0 = .ok (.iload_n 1, 1) := by decide +kernel
theorem dX7_put_1 : decode cX7_put 1 = .ok (.bipush 65, 2) := by decide +kernel
theorem dX7_put_3 : decode cX7_put 3 = .ok (.if_icmp .lt 9, 3) := by decide +kernel
theorem dX7_put_6 : decode cX7_put 6 = .ok (.iload_n 1, 1) := by decide +kernel
theorem dX7_put_7 : decode cX7_put 7 = .ok (.bipush 90, 2) := by decide +kernel
theorem dX7_put_9 : decode cX7_put 9 = .ok (.if_icmp .le 21, 3) := by decide +kernel
theorem dX7_put_12 : decode cX7_put 12 = .ok (.iload_n 1, 1) := by decide +kernel
theorem dX7_put_13 : decode cX7_put 13 = .ok (.bipush 48, 2) := by decide +kernel
theorem dX7_put_15 : decode cX7_put 15 = .ok (.if_icmp .lt 9, 3) := by decide +kernel
theorem dX7_put_18 : decode cX7_put 18 = .ok (.iload_n 1, 1) := by decide +kernel
theorem dX7_put_19 : decode cX7_put 19 = .ok (.bipush 57, 2) := by decide +kernel
theorem dX7_put_21 : decode cX7_put 21 = .ok (.if_icmp .le 9, 3) := by decide +kernel
theorem dX7_put_24 : decode cX7_put 24 = .ok (.iload_n 1, 1) := by decide +kernel
theorem dX7_put_25 : decode cX7_put 25 = .ok (.bipush 32, 2) := by decide +kernel
theorem dX7_put_27 : decode cX7_put 27 = .ok (.if_icmp .ne 7, 3) := by decide +kernel
theorem dX7_put_30 : decode cX7_put 30 = .ok (.iconst 1, 1) := by decide +kernel
theorem dX7_put_31 : decode cX7_put 31 = .ok (.goto 4, 3) := by decide +kernel
theorem dX7_put_34 : decode cX7_put 34 = .ok (.iconst 0, 1) := by decide +kernel
theorem dX7_put_35 : decode cX7_put 35 = .ok (.istore_n 2, 1) := by decide +kernel
theorem dX7_put_36 : decode cX7_put 36 = .ok (.aload_n 0, 1) := by decide +kernel
theorem dX7_put_37 : decode cX7_put 37 = .ok (.iload_n 2, 1) := by decide +kernel
theorem dX7_put_38 : decode cX7_put 38 = .ok (.aload_n 0, 1) := by decide +kernel
theorem dX7_put_39 : decode cX7_put 39 = .ok (.getfield 142, 3) := by decide +kernel
theorem dX7_put_42 : decode cX7_put 42 = .ok (.bipush 40, 2) := by decide +kernel
theorem dX7_put_44 : decode cX7_put 44 = .ok (.if_icmp .ge 7, 3) := by decide +kernel
theorem dX7_put_47 : decode cX7_put 47 = .ok (.iconst 1, 1) := by decide +kernel
theorem dX7_put_48 : decode cX7_put 48 = .ok (.goto 4, 3) := by decide +kernel
theorem dX7_put_51 : decode cX7_put 51 = .ok (.iconst 0, 1) := by decide +kernel
theorem dX7_put_52 : decode cX7_put 52 = .ok (.invokevirtual 104, 3) := by decide +kernel
theorem dX7_put_55 : decode cX7_put 55 = .ok (.ifCond .ne 5, 3) := by decide +kernel
theorem dX7_put_58 : decode cX7_put 58 = .ok (.iconst 0, 1) := by decide +kernel
theorem dX7_put_59 : decode cX7_put 59 = .ok (.ireturn, 1) := by decide +kernel
theorem dX7_put_60 : decode cX7_put 60 = .ok (.aload_n 0, 1) := by decide +kernel
theorem dX7_put_61 : decode cX7_put 61 = .ok (.getfield 34, 3) := by decide +kernel
theorem dX7_put_64 : decode cX7_put 64 = .ok (.aload_n 0, 1) := by decide +kernel
theorem dX7_put_65 : decode cX7_put 65 = .ok (.getfield 142, 3) := by decide +kernel
theorem dX7_put_68 : decode cX7_put 68 = .ok (.iload_n 1, 1) := by decide +kernel
theorem dX7_put_69 : decode cX7_put 69 = .ok (.castore, 1) := by decide +kernel
theorem dX7_put_70 : decode cX7_put 70 = .ok (.aload_n 0, 1) := by decide +kernel
theorem dX7_put_71 : decode cX7_put 71 = .ok (.dup, 1) := by decide +kernel
theorem dX7_put_72 : decode cX7_put 72 = .ok (.getfield 142, 3) := by decide +kernel
theorem dX7_put_75 : decode cX7_put 75 = .ok (.iconst 1, 1) := by decide +kernel
theorem dX7_put_76 : decode cX7_put 76 = .ok (.iadd, 1) := by decide +kernel
theorem dX7_put_77 : decode cX7_put 77 = .ok (.putfield 142, 3) := by decide +kernel
theorem dX7_put_80 : decode cX7_put 80 = .ok (.aload_n 0, 1) := by decide +kernel
theorem dX7_put_81 : decode cX7_put 81 = .ok (.getfield 142, 3) := by decide +kernel
theorem dX7_put_84 : decode cX7_put 84 = .ok (.ireturn, 1) := by decide +kernel
theorem dX7_empty_0 : decode cX7_empty 0 = .ok (.aload_n 0, 1) := by decide +kernel
theorem dX7_empty_1 : decode cX7_empty 1 = .ok (.iconst 0, 1) := by decide +kernel
theorem dX7_empty_2 : decode cX7_empty 2 = .ok (.putfield 81, 3) := by decide +kernel
theorem dX7_empty_5 : decode cX7_empty 5 = .ok (.aload_n 0, 1) := by decide +kernel
theorem dX7_empty_6 : decode cX7_empty 6 = .ok (.getfield 142, 3) := by decide +kernel
theorem dX7_empty_9 : decode cX7_empty 9 = .ok (.istore_n 1, 1) := by decide +kernel
theorem dX7_empty_10 : decode cX7_empty 10 = .ok (.aload_n 0, 1) := by decide +kernel
theorem dX7_empty_11 : decode cX7_empty 11 = .ok (.iconst 0, 1) := by decide +kernel
theorem dX7_empty_12 : decode cX7_empty 12 = .ok (.putfield 142, 3) := by decide +kernel
theorem dX7_empty_15 : decode cX7_empty 15 = .ok (.iload_n 1, 1) := by decide +kernel
theorem dX7_empty_16 : decode cX7_empty 16 = .ok (.ireturn, 1) := by decide +kernel
theorem dX7_isThree_0 : decode cX7_isThree 0 = .ok (.iload_n 2, 1) := by decide +kernel
theorem dX7_isThree_1 : decode cX7_isThree 1 = .ok (.iload_n 1, 1) := by decide +kernel
theorem dX7_isThree_2 : decode cX7_isThree 2 = .ok (.isub, 1) := by decide +kernel
theorem dX7_isThree_3 : decode cX7_isThree 3 = .ok (.iconst 3, 1) := by decide +kernel
theorem dX7_isThree_4 : decode cX7_isThree 4 = .ok (.if_icmp .ne 43, 3) := by decide +kernel
theorem dX7_isThree_7 : decode cX7_isThree 7 = .ok (.aload_n 0, 1) := by decide +kernel
theorem dX7_isThree_8 : decode cX7_isThree 8 = .ok (.getfield 34, 3) := by decide +kernel
theorem dX7_isThree_11 : decode cX7_isThree 11 = .ok (.iload_n 1, 1) := by decide +kernel
theorem dX7_isThree_12 : decode cX7_isThree 12 = .ok (.caload, 1) := by decide +kernel
theorem dX7_isThree_13 : decode cX7_isThree 13 = .ok (.iload_n 3, 1) := by decide +kernel
theorem dX7_isThree_14 : decode cX7_isThree 14 = .ok (.if_icmp .ne 33, 3) := by decide +kernel
theorem dX7_isThree_17 : decode cX7_isThree 17 = .ok (.aload_n 0, 1) := by decide +kernel
theorem dX7_isThree_18 : decode cX7_isThree 18 = .ok (.getfield 34, 3) := by decide +kernel
theorem dX7_isThree_21 : decode cX7_isThree 21 = .ok (.iload_n 1, 1) := by decide +kernel
theorem dX7_isThree_22 : decode cX7_isThree 22 = .ok (.iconst 1, 1) := by decide +kernel
theorem dX7_isThree_23 : decode cX7_isThree 23 = .ok (.iadd, 1) := by decide +kernel
theorem dX7_isThree_24 : decode cX7_isThree 24 = .ok (.caload, 1) := by decide +kernel
theorem dX7_isThree_25 : decode cX7_isThree 25 = .ok (.iload 4, 2) := by decide +kernel
theorem dX7_isThree_27 : decode cX7_isThree 27 = .ok (.if_icmp .ne 20, 3) := by decide +kernel
theorem dX7_isThree_30 : decode cX7_isThree 30 = .ok (.aload_n 0, 1) := by decide +kernel
theorem dX7_isThree_31 : decode cX7_isThree 31 = .ok (.getfield 34, 3) := by decide +kernel
theorem dX7_isThree_34 : decode cX7_isThree 34 = .ok (.iload_n 1, 1) := by decide +kernel
theorem dX7_isThree_35 : decode cX7_isThree 35 = .ok (.iconst 2, 1) := by decide +kernel
theorem dX7_isThree_36 : decode cX7_isThree 36 = .ok (.iadd, 1) := by decide +kernel
theorem dX7_isThree_37 : decode cX7_isThree 37 = .ok (.caload, 1) := by decide +kernel
theorem dX7_isThree_38 : decode cX7_isThree 38 = .ok (.iload 5, 2) := by decide +kernel
theorem dX7_isThree_40 : decode cX7_isThree 40 = .ok (.if_icmp .ne 7, 3) := by decide +kernel
theorem dX7_isThree_43 : decode cX7_isThree 43 = .ok (.iconst 1, 1) := by decide +kernel
theorem dX7_isThree_44 : decode cX7_isThree 44 = .ok (.goto 4, 3) := by decide +kernel
theorem dX7_isThree_47 : decode cX7_isThree 47 = .ok (.iconst 0, 1) := by decide +kernel
theorem dX7_isThree_48 : decode cX7_isThree 48 = .ok (.ireturn, 1) := by decide +kernel
theorem dX7_isFour_0 : decode cX7_isFour 0 = .ok (.iload_n 2, 1) := by decide +kernel
theorem dX7_isFour_1 : decode cX7_isFour 1 = .ok (.iload_n 1, 1) := by decide +kernel
theorem dX7_isFour_2 : decode cX7_isFour 2 = .ok (.isub, 1) := by decide +kernel
theorem dX7_isFour_3 : decode cX7_isFour 3 = .ok (.iconst 4, 1) := by decide +kernel
theorem dX7_isFour_4 : decode cX7_isFour 4 = .ok (.if_icmp .ne 56, 3) := by decide +kernel
theorem dX7_isFour_7 : decode cX7_isFour 7 = .ok (.aload_n 0, 1) := by decide +kernel
theorem dX7_isFour_8 : decode cX7_isFour 8 = .ok (.getfield 34, 3) := by decide +kernel
theorem dX7_isFour_11 : decode cX7_isFour 11 = .ok (.iload_n 1, 1) := by decide +kernel
theorem dX7_isFour_12 : decode cX7_isFour 12 = .ok (.caload, 1) := by decide +kernel
theorem dX7_isFour_13 : decode cX7_isFour 13 = .ok (.iload_n 3, 1) := by decide +kernel
theorem dX7_isFour_14 : decode cX7_isFour 14 = .ok (.if_icmp .ne 46, 3) := by decide +kernel
theorem dX7_isFour_17 : decode cX7_isFour 17 = .ok (.aload_n 0, 1) := by decide +kernel
theorem dX7_isFour_18 : decode cX7_isFour 18 = .ok (.getfield 34, 3) := by decide +kernel
theorem dX7_isFour_21 : decode cX7_isFour 21 = .ok (.iload_n 1, 1) := by decide +kernel
theorem dX7_isFour_22 : decode cX7_isFour 22 = .ok (.iconst 1, 1) := by decide +kernel
theorem dX7_isFour_23 : decode cX7_isFour 23 = .ok (.iadd, 1) := by decide +kernel
theorem dX7_isFour_24 : decode cX7_isFour 24 = .ok (.caload, 1) := by decide +kernel
theorem dX7_isFour_25 : decode cX7_isFour 25 = .ok (.iload 4, 2) := by decide +kernel
theorem dX7_isFour_27 : decode cX7_isFour 27 = .ok (.if_icmp .ne 33, 3) := by decide +kernel
theorem dX7_isFour_30 : decode cX7_isFour 30 = .ok (.aload_n 0, 1) := by decide +kernel
theorem dX7_isFour_31 : decode cX7_isFour 31 = .ok (.getfield 34, 3) := by decide +kernel
theorem dX7_isFour_34 : decode cX7_isFour 34 = .ok (.iload_n 1, 1) := by decide +kernel
theorem dX7_isFour_35 : decode cX7_isFour 35 = .ok (.iconst 2, 1) := by decide +kernel
theorem dX7_isFour_36 : decode cX7_isFour 36 = .ok (.iadd, 1) := by decide +kernel
theorem dX7_isFour_37 : decode cX7_isFour 37 = .ok (.caload, 1) := by decide +kernel
theorem dX7_isFour_38 : decode cX7_isFour 38 = .ok (.iload 5, 2) := by decide +kernel
theorem dX7_isFour_40 : decode cX7_isFour 40 = .ok (.if_icmp .ne 20, 3) := by decide +kernel
theorem dX7_isFour_43 : decode cX7_isFour 43 = .ok (.aload_n 0, 1) := by decide +kernel
theorem dX7_isFour_44 : decode cX7_isFour 44 = .ok (.getfield 34, 3) := by decide +kernel
theorem dX7_isFour_47 : decode cX7_isFour 47 = .ok (.iload_n 1, 1) := by decide +kernel
theorem dX7_isFour_48 : decode cX7_isFour 48 = .ok (.iconst 3, 1) := by decide +kernel
theorem dX7_isFour_49 : decode cX7_isFour 49 = .ok (.iadd, 1) := by decide +kernel
theorem dX7_isFour_50 : decode cX7_isFour 50 = .ok (.caload, 1) := by decide +kernel
theorem dX7_isFour_51 : decode cX7_isFour 51 = .ok (.iload 6, 2) := by decide +kernel
theorem dX7_isFour_53 : decode cX7_isFour 53 = .ok (.if_icmp .ne 7, 3) := by decide +kernel
theorem dX7_isFour_56 : decode cX7_isFour 56 = .ok (.iconst 1, 1) := by decide +kernel
theorem dX7_isFour_57 : decode cX7_isFour 57 = .ok (.goto 4, 3) := by decide +kernel
theorem dX7_isFour_60 : decode cX7_isFour 60 = .ok (.iconst 0, 1) := by decide +kernel
theorem dX7_isFour_61 : decode cX7_isFour 61 = .ok (.ireturn, 1) := by decide +kernel
theorem dX7_isSkill_0 : decode cX7_isSkill 0 = .ok (.iload_n 2, 1) := by decide +kernel
theorem dX7_isSkill_1 : decode cX7_isSkill 1 = .ok (.iload_n 1, 1) := by decide +kernel
theorem dX7_isSkill_2 : decode cX7_isSkill 2 = .ok (.isub, 1) := by decide +kernel
theorem dX7_isSkill_3 : decode cX7_isSkill 3 = .ok (.iconst 5, 1) := by decide +kernel
theorem dX7_isSkill_4 : decode cX7_isSkill 4 = .ok (.if_icmp .ne 70, 3) := by decide +kernel
theorem dX7_isSkill_7 : decode cX7_isSkill 7 = .ok (.aload_n 0, 1) := by decide +kernel
theorem dX7_isSkill_8 : decode cX7_isSkill 8 = .ok (.getfield 34, 3) := by decide +kernel
theorem dX7_isSkill_11 : decode cX7_isSkill 11 = .ok (.iload_n 1, 1) := by decide +kernel
theorem dX7_isSkill_12 : decode cX7_isSkill 12 = .ok (.caload, 1) := by decide +kernel
theorem dX7_isSkill_13 : decode cX7_isSkill 13 = .ok (.bipush 83, 2) := by decide +kernel
theorem dX7_isSkill_15 : decode cX7_isSkill 15 = .ok (.if_icmp .ne 59, 3) := by decide +kernel
theorem dX7_isSkill_18 : decode cX7_isSkill 18 = .ok (.aload_n 0, 1) := by decide +kernel
theorem dX7_isSkill_19 : decode cX7_isSkill 19 = .ok (.getfield 34, 3) := by decide +kernel
theorem dX7_isSkill_22 : decode cX7_isSkill 22 = .ok (.iload_n 1, 1) := by decide +kernel
theorem dX7_isSkill_23 : decode cX7_isSkill 23 = .ok (.iconst 1, 1) := by decide +kernel
theorem dX7_isSkill_24 : decode cX7_isSkill 24 = .ok (.iadd, 1) := by decide +kernel
theorem dX7_isSkill_25 : decode cX7_isSkill 25 = .ok (.caload, 1) := by decide +kernel
theorem dX7_isSkill_26 : decode cX7_isSkill 26 = .ok (.bipush 75, 2) := by decide +kernel
theorem dX7_isSkill_28 : decode cX7_isSkill 28 = .ok (.if_icmp .ne 46, 3) := by decide +kernel
theorem dX7_isSkill_31 : decode cX7_isSkill 31 = .ok (.aload_n 0, 1) := by decide +kernel
theorem dX7_isSkill_32 : decode cX7_isSkill 32 = .ok (.getfield 34, 3) := by decide +kernel
theorem dX7_isSkill_35 : decode cX7_isSkill 35 = .ok (.iload_n 1, 1) := by decide +kernel
theorem dX7_isSkill_36 : decode cX7_isSkill 36 = .ok (.iconst 2, 1) := by decide +kernel
theorem dX7_isSkill_37 : decode cX7_isSkill 37 = .ok (.iadd, 1) := by decide +kernel
theorem dX7_isSkill_38 : decode cX7_isSkill 38 = .ok (.caload, 1) := by decide +kernel
theorem dX7_isSkill_39 : decode cX7_isSkill 39 = .ok (.bipush 73, 2) := by decide +kernel
theorem dX7_isSkill_41 : decode cX7_isSkill 41 = .ok (.if_icmp .ne 33, 3) := by decide +kernel
theorem dX7_isSkill_44 : decode cX7_isSkill 44 = .ok (.aload_n 0, 1) := by decide +kernel
theorem dX7_isSkill_45 : decode cX7_isSkill 45 = .ok (.getfield 34, 3) := by decide +kernel
theorem dX7_isSkill_48 : decode cX7_isSkill 48 = .ok (.iload_n 1, 1) := by decide +kernel
theorem dX7_isSkill_49 : decode cX7_isSkill 49 = .ok (.iconst 3, 1) := by decide +kernel
theorem dX7_isSkill_50 : decode cX7_isSkill 50 = .ok (.iadd, 1) := by decide +kernel
theorem dX7_isSkill_51 : decode cX7_isSkill 51 = .ok (.caload, 1) := by decide +kernel
theorem dX7_isSkill_52 : decode cX7_isSkill 52 = .ok (.bipush 76, 2) := by decide +kernel
theorem dX7_isSkill_54 : decode cX7_isSkill 54 = .ok (.if_icmp .ne 20, 3) := by decide +kernel
theorem dX7_isSkill_57 : decode cX7_isSkill 57 = .ok (.aload_n 0, 1) := by decide +kernel
theorem dX7_isSkill_58 : decode cX7_isSkill 58 = .ok (.getfield 34, 3) := by decide +kernel
theorem dX7_isSkill_61 : decode cX7_isSkill 61 = .ok (.iload_n 1, 1) := by decide +kernel
theorem dX7_isSkill_62 : decode cX7_isSkill 62 = .ok (.iconst 4, 1) := by decide +kernel
theorem dX7_isSkill_63 : decode cX7_isSkill 63 = .ok (.iadd, 1) := by decide +kernel
theorem dX7_isSkill_64 : decode cX7_isSkill 64 = .ok (.caload, 1) := by decide +kernel
theorem dX7_isSkill_65 : decode cX7_isSkill 65 = .ok (.bipush 76, 2) := by decide +kernel
theorem dX7_isSkill_67 : decode cX7_isSkill 67 = .ok (.if_icmp .ne 7, 3) := by decide +kernel
theorem dX7_isSkill_70 : decode cX7_isSkill 70 = .ok (.iconst 1, 1) := by decide +kernel
theorem dX7_isSkill_71 : decode cX7_isSkill 71 = .ok (.goto 4, 3) := by decide +kernel
theorem dX7_isSkill_74 : decode cX7_isSkill 74 = .ok (.iconst 0, 1) := by decide +kernel
theorem dX7_isSkill_75 : decode cX7_isSkill 75 = .ok (.ireturn, 1) := by decide +kernel
theorem dX7_numberOf_0 : decode cX7_numberOf 0 = .ok (.iload_n 2, 1) := by decide +kernel
theorem dX7_numberOf_1 : decode cX7_numberOf 1 = .ok (.iload_n 1, 1) := by decide +kernel
theorem dX7_numberOf_2 : decode cX7_numberOf 2 = .ok (.isub, 1) := by decide +kernel
theorem dX7_numberOf_3 : decode cX7_numberOf 3 = .ok (.iload_n 3, 1) := by decide +kernel
theorem dX7_numberOf_4 : decode cX7_numberOf 4 = .ok (.if_icmp .le 5, 3) := by decide +kernel
theorem dX7_numberOf_7 : decode cX7_numberOf 7 = .ok (.iconst (-1), 1) := by decide +kernel
theorem dX7_numberOf_8 : decode cX7_numberOf 8 = .ok (.ireturn, 1) := by decide +kernel
theorem dX7_numberOf_9 : decode cX7_numberOf 9 = .ok (.iconst 0, 1) := by decide +kernel
theorem dX7_numberOf_10 : decode cX7_numberOf 10 = .ok (.istore 4, 2) := by decide +kernel
theorem dX7_numberOf_12 : decode cX7_numberOf 12 = .ok (.iload_n 1, 1) := by decide +kernel
theorem dX7_numberOf_13 : decode cX7_numberOf 13 = .ok (.istore 5, 2) := by decide +kernel
theorem dX7_numberOf_15 : decode cX7_numberOf 15 = .ok (.iload 5, 2) := by decide +kernel
theorem dX7_numberOf_17 : decode cX7_numberOf 17 = .ok (.iload_n 2, 1) := by decide +kernel
theorem dX7_numberOf_18 : decode cX7_numberOf 18 = .ok (.if_icmp .ge 53, 3) := by decide +kernel
theorem dX7_numberOf_21 : decode cX7_numberOf 21 = .ok (.aload_n 0, 1) := by decide +kernel
theorem dX7_numberOf_22 : decode cX7_numberOf 22 = .ok (.getfield 34, 3) := by decide +kernel
theorem dX7_numberOf_25 : decode cX7_numberOf 25 = .ok (.iload 5, 2) := by decide +kernel
theorem dX7_numberOf_27 : decode cX7_numberOf 27 = .ok (.caload, 1) := by decide +kernel
theorem dX7_numberOf_28 : decode cX7_numberOf 28 = .ok (.bipush 48, 2) := by decide +kernel
theorem dX7_numberOf_30 : decode cX7_numberOf 30 = .ok (.if_icmp .lt 15, 3) := by decide +kernel
theorem dX7_numberOf_33 : decode cX7_numberOf 33 = .ok (.aload_n 0, 1) := by decide +kernel
theorem dX7_numberOf_34 : decode cX7_numberOf 34 = .ok (.getfield 34, 3) := by decide +kernel
theorem dX7_numberOf_37 : decode cX7_numberOf 37 = .ok (.iload 5, 2) := by decide +kernel
theorem dX7_numberOf_39 : decode cX7_numberOf 39 = .ok (.caload, 1) := by decide +kernel
theorem dX7_numberOf_40 : decode cX7_numberOf 40 = .ok (.bipush 57, 2) := by decide +kernel
theorem dX7_numberOf_42 : decode cX7_numberOf 42 = .ok (.if_icmp .le 5, 3) := by decide +kernel
theorem dX7_numberOf_45 : decode cX7_numberOf 45 = .ok (.iconst (-1), 1) := by decide +kernel
theorem dX7_numberOf_46 : decode cX7_numberOf 46 = .ok (.ireturn, 1) := by decide +kernel
theorem dX7_numberOf_47 : decode cX7_numberOf 47 = .ok (.bipush 10, 2) := by decide +kernel
theorem dX7_numberOf_49 : decode cX7_numberOf 49 = .ok (.iload 4, 2) := by decide +kernel
theorem dX7_numberOf_51 : decode cX7_numberOf 51 = .ok (.imul, 1) := by decide +kernel
theorem dX7_numberOf_52 : decode cX7_numberOf 52 = .ok (.aload_n 0, 1) := by decide +kernel
theorem dX7_numberOf_53 : decode cX7_numberOf 53 = .ok (.getfield 34, 3) := by decide +kernel
theorem dX7_numberOf_56 : decode cX7_numberOf 56 = .ok (.iload 5, 2) := by decide +kernel
theorem dX7_numberOf_58 : decode cX7_numberOf 58 = .ok (.caload, 1) := by decide +kernel
theorem dX7_numberOf_59 : decode cX7_numberOf 59 = .ok (.iadd, 1) := by decide +kernel
theorem dX7_numberOf_60 : decode cX7_numberOf 60 = .ok (.bipush 48, 2) := by decide +kernel
theorem dX7_numberOf_62 : decode cX7_numberOf 62 = .ok (.isub, 1) := by decide +kernel
theorem dX7_numberOf_63 : decode cX7_numberOf 63 = .ok (.istore 4, 2) := by decide +kernel
theorem dX7_numberOf_65 : decode cX7_numberOf 65 = .ok (.iinc 5 1, 3) := by decide +kernel
theorem dX7_numberOf_68 : decode cX7_numberOf 68 = .ok (.goto (-53), 3) := by decide +kernel
theorem dX7_numberOf_71 : decode cX7_numberOf 71 = .ok (.iload 4, 2) := by decide +kernel
theorem dX7_numberOf_73 : decode cX7_numberOf 73 = .ok (.ireturn, 1) := by decide +kernel
theorem dX7_word_0 : decode cX7_word 0 = .ok (.iload_n 1, 1) := by decide +kernel
theorem dX7_word_1 : decode cX7_word 1 = .ok (.ifCond .ne 104, 3) := by decide +kernel
theorem dX7_word_4 : decode cX7_word 4 = .ok (.aload_n 0, 1) := by decide +kernel
theorem dX7_word_5 : decode cX7_word 5 = .ok (.aload_n 0, 1) := by decide +kernel
theorem dX7_word_6 : decode cX7_word 6 = .ok (.iload_n 2, 1) := by decide +kernel
theorem dX7_word_7 : decode cX7_word 7 = .ok (.iload_n 3, 1) := by decide +kernel
theorem dX7_word_8 : decode cX7_word 8 = .ok (.bipush 82, 2) := by decide +kernel
theorem dX7_word_10 : decode cX7_word 10 = .ok (.bipush 69, 2) := by decide +kernel
theorem dX7_word_12 : decode cX7_word 12 = .ok (.bipush 83, 2) := by decide +kernel
theorem dX7_word_14 : decode cX7_word 14 = .ok (.bipush 84, 2) := by decide +kernel
theorem dX7_word_16 : decode cX7_word 16 = .ok (.invokevirtual 145, 3) := by decide +kernel
theorem dX7_word_19 : decode cX7_word 19 = .ok (.ifCond .eq 7, 3) := by decide +kernel
theorem dX7_word_22 : decode cX7_word 22 = .ok (.iconst 0, 1) := by decide +kernel
theorem dX7_word_23 : decode cX7_word 23 = .ok (.goto 65, 3) := by decide +kernel
theorem dX7_word_26 : decode cX7_word 26 = .ok (.aload_n 0, 1) := by decide +kernel
theorem dX7_word_27 : decode cX7_word 27 = .ok (.iload_n 2, 1) := by decide +kernel
theorem dX7_word_28 : decode cX7_word 28 = .ok (.iload_n 3, 1) := by decide +kernel
theorem dX7_word_29 : decode cX7_word 29 = .ok (.bipush 87, 2) := by decide +kernel
theorem dX7_word_31 : decode cX7_word 31 = .ok (.bipush 69, 2) := by decide +kernel
theorem dX7_word_33 : decode cX7_word 33 = .ok (.bipush 69, 2) := by decide +kernel
theorem dX7_word_35 : decode cX7_word 35 = .ok (.bipush 75, 2) := by decide +kernel
theorem dX7_word_37 : decode cX7_word 37 = .ok (.invokevirtual 145, 3) := by decide +kernel
theorem dX7_word_40 : decode cX7_word 40 = .ok (.ifCond .eq 7, 3) := by decide +kernel
theorem dX7_word_43 : decode cX7_word 43 = .ok (.iconst 1, 1) := by decide +kernel
theorem dX7_word_44 : decode cX7_word 44 = .ok (.goto 44, 3) := by decide +kernel
theorem dX7_word_47 : decode cX7_word 47 = .ok (.aload_n 0, 1) := by decide +kernel
theorem dX7_word_48 : decode cX7_word 48 = .ok (.iload_n 2, 1) := by decide +kernel
theorem dX7_word_49 : decode cX7_word 49 = .ok (.iload_n 3, 1) := by decide +kernel
theorem dX7_word_50 : decode cX7_word 50 = .ok (.bipush 82, 2) := by decide +kernel
theorem dX7_word_52 : decode cX7_word 52 = .ok (.bipush 79, 2) := by decide +kernel
theorem dX7_word_54 : decode cX7_word 54 = .ok (.bipush 87, 2) := by decide +kernel
theorem dX7_word_56 : decode cX7_word 56 = .ok (.invokevirtual 149, 3) := by decide +kernel
theorem dX7_word_59 : decode cX7_word 59 = .ok (.ifCond .eq 7, 3) := by decide +kernel
theorem dX7_word_62 : decode cX7_word 62 = .ok (.iconst 2, 1) := by decide +kernel
theorem dX7_word_63 : decode cX7_word 63 = .ok (.goto 25, 3) := by decide +kernel
theorem dX7_word_66 : decode cX7_word 66 = .ok (.aload_n 0, 1) := by decide +kernel
theorem dX7_word_67 : decode cX7_word 67 = .ok (.iload_n 2, 1) := by decide +kernel
theorem dX7_word_68 : decode cX7_word 68 = .ok (.iload_n 3, 1) := by decide +kernel
theorem dX7_word_69 : decode cX7_word 69 = .ok (.bipush 76, 2) := by decide +kernel
theorem dX7_word_71 : decode cX7_word 71 = .ok (.bipush 79, 2) := by decide +kernel
theorem dX7_word_73 : decode cX7_word 73 = .ok (.bipush 78, 2) := by decide +kernel
theorem dX7_word_75 : decode cX7_word 75 = .ok (.bipush 71, 2) := by decide +kernel
theorem dX7_word_77 : decode cX7_word 77 = .ok (.invokevirtual 145, 3) := by decide +kernel
theorem dX7_word_80 : decode cX7_word 80 = .ok (.ifCond .eq 7, 3) := by decide +kernel
theorem dX7_word_83 : decode cX7_word 83 = .ok (.iconst 3, 1) := by decide +kernel
theorem dX7_word_84 : decode cX7_word 84 = .ok (.goto 4, 3) := by decide +kernel
theorem dX7_word_87 : decode cX7_word 87 = .ok (.iconst (-1), 1) := by decide +kernel
theorem dX7_word_88 : decode cX7_word 88 = .ok (.putfield 153, 3) := by decide +kernel
theorem dX7_word_91 : decode cX7_word 91 = .ok (.aload_n 0, 1) := by decide +kernel
theorem dX7_word_92 : decode cX7_word 92 = .ok (.getfield 153, 3) := by decide +kernel
theorem dX7_word_95 : decode cX7_word 95 = .ok (.iconst (-1), 1) := by decide +kernel
theorem dX7_word_96 : decode cX7_word 96 = .ok (.if_icmp .ne 7, 3) := by decide +kernel
theorem dX7_word_99 : decode cX7_word 99 = .ok (.iconst (-1), 1) := by decide +kernel
theorem dX7_word_100 : decode cX7_word 100 = .ok (.goto 4, 3) := by decide +kernel
theorem dX7_word_103 : decode cX7_word 103 = .ok (.iconst 1, 1) := by decide +kernel
theorem dX7_word_104 : decode cX7_word 104 = .ok (.ireturn, 1) := by decide +kernel
theorem dX7_word_105 : decode cX7_word 105 = .ok (.iload_n 1, 1) := by decide +kernel
theorem dX7_word_106 : decode cX7_word 106 = .ok (.iconst 1, 1) := by decide +kernel
theorem dX7_word_107 : decode cX7_word 107 = .ok (.if_icmp .ne 34, 3) := by decide +kernel
theorem dX7_word_110 : decode cX7_word 110 = .ok (.aload_n 0, 1) := by decide +kernel
theorem dX7_word_111 : decode cX7_word 111 = .ok (.aload_n 0, 1) := by decide +kernel
theorem dX7_word_112 : decode cX7_word 112 = .ok (.iload_n 2, 1) := by decide +kernel
theorem dX7_word_113 : decode cX7_word 113 = .ok (.iload_n 3, 1) := by decide +kernel
theorem dX7_word_114 : decode cX7_word 114 = .ok (.iconst 3, 1) := by decide +kernel
theorem dX7_word_115 : decode cX7_word 115 = .ok (.invokevirtual 156, 3) := by decide +kernel
theorem dX7_word_118 : decode cX7_word 118 = .ok (.putfield 160, 3) := by decide +kernel
theorem dX7_word_121 : decode cX7_word 121 = .ok (.aload_n 0, 1) := by decide +kernel
theorem dX7_word_122 : decode cX7_word 122 = .ok (.getfield 160, 3) := by decide +kernel
theorem dX7_word_125 : decode cX7_word 125 = .ok (.iconst 1, 1) := by decide +kernel
theorem dX7_word_126 : decode cX7_word 126 = .ok (.sipush 200, 3) := by decide +kernel
theorem dX7_word_129 : decode cX7_word 129 = .ok (.invokestatic 85, 3) := by decide +kernel
theorem dX7_word_132 : decode cX7_word 132 = .ok (.ifCond .eq 7, 3) := by decide +kernel
theorem dX7_word_135 : decode cX7_word 135 = .ok (.iconst 2, 1) := by decide +kernel
theorem dX7_word_136 : decode cX7_word 136 = .ok (.goto 4, 3) := by decide +kernel
theorem dX7_word_139 : decode cX7_word 139 = .ok (.iconst (-1), 1) := by decide +kernel
theorem dX7_word_140 : decode cX7_word 140 = .ok (.ireturn, 1) := by decide +kernel
theorem dX7_word_141 : decode cX7_word 141 = .ok (.iload_n 1, 1) := by decide +kernel
theorem dX7_word_142 : decode cX7_word 142 = .ok (.iconst 2, 1) := by decide +kernel
theorem dX7_word_143 : decode cX7_word 143 = .ok (.if_icmp .ne 14, 3) := by decide +kernel
theorem dX7_word_146 : decode cX7_word 146 = .ok (.aload_n 0, 1) := by decide +kernel
theorem dX7_word_147 : decode cX7_word 147 = .ok (.iload_n 2, 1) := by decide +kernel
theorem dX7_word_148 : decode cX7_word 148 = .ok (.iload_n 3, 1) := by decide +kernel
theorem dX7_word_149 : decode cX7_word 149 = .ok (.invokevirtual 163, 3) := by decide +kernel
theorem dX7_word_152 : decode cX7_word 152 = .ok (.ifCond .eq 5, 3) := by decide +kernel
theorem dX7_word_155 : decode cX7_word 155 = .ok (.iconst 3, 1) := by decide +kernel
theorem dX7_word_156 : decode cX7_word 156 = .ok (.ireturn, 1) := by decide +kernel
theorem dX7_word_157 : decode cX7_word 157 = .ok (.iload_n 1, 1) := by decide +kernel
theorem dX7_word_158 : decode cX7_word 158 = .ok (.iconst 2, 1) := by decide +kernel
theorem dX7_word_159 : decode cX7_word 159 = .ok (.if_icmp .eq 8, 3) := by decide +kernel
theorem dX7_word_162 : decode cX7_word 162 = .ok (.iload_n 1, 1) := by decide +kernel
theorem dX7_word_163 : decode cX7_word 163 = .ok (.iconst 4, 1) := by decide +kernel
theorem dX7_word_164 : decode cX7_word 164 = .ok (.if_icmp .ne 24, 3) := by decide +kernel
theorem dX7_word_167 : decode cX7_word 167 = .ok (.aload_n 0, 1) := by decide +kernel
theorem dX7_word_168 : decode cX7_word 168 = .ok (.iload_n 2, 1) := by decide +kernel
theorem dX7_word_169 : decode cX7_word 169 = .ok (.iload_n 3, 1) := by decide +kernel
theorem dX7_word_170 : decode cX7_word 170 = .ok (.bipush 80, 2) := by decide +kernel
theorem dX7_word_172 : decode cX7_word 172 = .ok (.bipush 65, 2) := by decide +kernel
theorem dX7_word_174 : decode cX7_word 174 = .ok (.bipush 89, 2) := by decide +kernel
theorem dX7_word_176 : decode cX7_word 176 = .ok (.invokevirtual 149, 3) := by decide +kernel
theorem dX7_word_179 : decode cX7_word 179 = .ok (.ifCond .eq 7, 3) := by decide +kernel
theorem dX7_word_182 : decode cX7_word 182 = .ok (.iconst 5, 1) := by decide +kernel
theorem dX7_word_183 : decode cX7_word 183 = .ok (.goto 4, 3) := by decide +kernel
theorem dX7_word_186 : decode cX7_word 186 = .ok (.iconst (-1), 1) := by decide +kernel
theorem dX7_word_187 : decode cX7_word 187 = .ok (.ireturn, 1) := by decide +kernel
theorem dX7_word_188 : decode cX7_word 188 = .ok (.iload_n 1, 1) := by decide +kernel
theorem dX7_word_189 : decode cX7_word 189 = .ok (.iconst 3, 1) := by decide +kernel
theorem dX7_word_190 : decode cX7_word 190 = .ok (.if_icmp .ne 32, 3) := by decide +kernel
theorem dX7_word_193 : decode cX7_word 193 = .ok (.aload_n 0, 1) := by decide +kernel
theorem dX7_word_194 : decode cX7_word 194 = .ok (.aload_n 0, 1) := by decide +kernel
theorem dX7_word_195 : decode cX7_word 195 = .ok (.iload_n 2, 1) := by decide +kernel
theorem dX7_word_196 : decode cX7_word 196 = .ok (.iload_n 3, 1) := by decide +kernel
theorem dX7_word_197 : decode cX7_word 197 = .ok (.iconst 1, 1) := by decide +kernel
theorem dX7_word_198 : decode cX7_word 198 = .ok (.invokevirtual 156, 3) := by decide +kernel
theorem dX7_word_201 : decode cX7_word 201 = .ok (.putfield 166, 3) := by decide +kernel
theorem dX7_word_204 : decode cX7_word 204 = .ok (.aload_n 0, 1) := by decide +kernel
theorem dX7_word_205 : decode cX7_word 205 = .ok (.getfield 166, 3) := by decide +kernel
theorem dX7_word_208 : decode cX7_word 208 = .ok (.iconst 0, 1) := by decide +kernel
theorem dX7_word_209 : decode cX7_word 209 = .ok (.iconst 3, 1) := by decide +kernel
theorem dX7_word_210 : decode cX7_word 210 = .ok (.invokestatic 85, 3) := by decide +kernel
theorem dX7_word_213 : decode cX7_word 213 = .ok (.ifCond .eq 7, 3) := by decide +kernel
theorem dX7_word_216 : decode cX7_word 216 = .ok (.iconst 4, 1) := by decide +kernel
theorem dX7_word_217 : decode cX7_word 217 = .ok (.goto 4, 3) := by decide +kernel
theorem dX7_word_220 : decode cX7_word 220 = .ok (.iconst (-1), 1) := by decide +kernel
theorem dX7_word_221 : decode cX7_word 221 = .ok (.ireturn, 1) := by decide +kernel
theorem dX7_word_222 : decode cX7_word 222 = .ok (.iload_n 1, 1) := by decide +kernel
theorem dX7_word_223 : decode cX7_word 223 = .ok (.iconst 5, 1) := by decide +kernel
theorem dX7_word_224 : decode cX7_word 224 = .ok (.if_icmp .ne 35, 3) := by decide +kernel
theorem dX7_word_227 : decode cX7_word 227 = .ok (.aload_n 0, 1) := by decide +kernel
theorem dX7_word_228 : decode cX7_word 228 = .ok (.aload_n 0, 1) := by decide +kernel
theorem dX7_word_229 : decode cX7_word 229 = .ok (.iload_n 2, 1) := by decide +kernel
theorem dX7_word_230 : decode cX7_word 230 = .ok (.iload_n 3, 1) := by decide +kernel
theorem dX7_word_231 : decode cX7_word 231 = .ok (.iconst 3, 1) := by decide +kernel
theorem dX7_word_232 : decode cX7_word 232 = .ok (.invokevirtual 156, 3) := by decide +kernel
theorem dX7_word_235 : decode cX7_word 235 = .ok (.putfield 169, 3) := by decide +kernel
theorem dX7_word_238 : decode cX7_word 238 = .ok (.aload_n 0, 1) := by decide +kernel
theorem dX7_word_239 : decode cX7_word 239 = .ok (.getfield 169, 3) := by decide +kernel
theorem dX7_word_242 : decode cX7_word 242 = .ok (.iconst 0, 1) := by decide +kernel
theorem dX7_word_243 : decode cX7_word 243 = .ok (.sipush 200, 3) := by decide +kernel
theorem dX7_word_246 : decode cX7_word 246 = .ok (.invokestatic 85, 3) := by decide +kernel
theorem dX7_word_249 : decode cX7_word 249 = .ok (.ifCond .eq 8, 3) := by decide +kernel
theorem dX7_word_252 : decode cX7_word 252 = .ok (.bipush 6, 2) := by decide +kernel
theorem dX7_word_254 : decode cX7_word 254 = .ok (.goto 4, 3) := by decide +kernel
theorem dX7_word_257 : decode cX7_word 257 = .ok (.iconst (-1), 1) := by decide +kernel
theorem dX7_word_258 : decode cX7_word 258 = .ok (.ireturn, 1) := by decide +kernel
theorem dX7_word_259 : decode cX7_word 259 = .ok (.iconst (-1), 1) := by decide +kernel
theorem dX7_word_260 : decode cX7_word 260 = .ok (.ireturn, 1) := by decide +kernel
theorem dX7_wrong_0 : decode cX7_wrong 0 = .ok (.aload_n 0, 1) := by decide +kernel
theorem dX7_wrong_1 : decode cX7_wrong 1 = .ok (.iconst (-1), 1) := by decide +kernel
theorem dX7_wrong_2 : decode cX7_wrong 2 = .ok (.putfield 166, 3) := by decide +kernel
theorem dX7_wrong_5 : decode cX7_wrong 5 = .ok (.iconst 0, 1) := by decide +kernel
theorem dX7_wrong_6 : decode cX7_wrong 6 = .ok (.istore_n 1, 1) := by decide +kernel
theorem dX7_wrong_7 : decode cX7_wrong 7 = .ok (.iconst 0, 1) := by decide +kernel
theorem dX7_wrong_8 : decode cX7_wrong 8 = .ok (.istore_n 2, 1) := by decide +kernel
theorem dX7_wrong_9 : decode cX7_wrong 9 = .ok (.iload_n 2, 1) := by decide +kernel
theorem dX7_wrong_10 : decode cX7_wrong 10 = .ok (.aload_n 0, 1) := by decide +kernel
theorem dX7_wrong_11 : decode cX7_wrong 11 = .ok (.getfield 142, 3) := by decide +kernel
theorem dX7_wrong_14 : decode cX7_wrong 14 = .ok (.if_icmp .ge 67, 3) := by decide +kernel
theorem dX7_wrong_17 : decode cX7_wrong 17 = .ok (.aload_n 0, 1) := by decide +kernel
theorem dX7_wrong_18 : decode cX7_wrong 18 = .ok (.getfield 34, 3) := by decide +kernel
theorem dX7_wrong_21 : decode cX7_wrong 21 = .ok (.iload_n 2, 1) := by decide +kernel
theorem dX7_wrong_22 : decode cX7_wrong 22 = .ok (.caload, 1) := by decide +kernel
theorem dX7_wrong_23 : decode cX7_wrong 23 = .ok (.bipush 32, 2) := by decide +kernel
theorem dX7_wrong_25 : decode cX7_wrong 25 = .ok (.if_icmp .ne 9, 3) := by decide +kernel
theorem dX7_wrong_28 : decode cX7_wrong 28 = .ok (.iinc 2 1, 3) := by decide +kernel
theorem dX7_wrong_31 : decode cX7_wrong 31 = .ok (.goto (-22), 3) := by decide +kernel
theorem dX7_wrong_34 : decode cX7_wrong 34 = .ok (.iload_n 2, 1) := by decide +kernel
theorem dX7_wrong_35 : decode cX7_wrong 35 = .ok (.istore_n 3, 1) := by decide +kernel
theorem dX7_wrong_36 : decode cX7_wrong 36 = .ok (.iload_n 3, 1) := by decide +kernel
theorem dX7_wrong_37 : decode cX7_wrong 37 = .ok (.aload_n 0, 1) := by decide +kernel
theorem dX7_wrong_38 : decode cX7_wrong 38 = .ok (.getfield 142, 3) := by decide +kernel
theorem dX7_wrong_41 : decode cX7_wrong 41 = .ok (.if_icmp .ge 20, 3) := by decide +kernel
theorem dX7_wrong_44 : decode cX7_wrong 44 = .ok (.aload_n 0, 1) := by decide +kernel
theorem dX7_wrong_45 : decode cX7_wrong 45 = .ok (.getfield 34, 3) := by decide +kernel
theorem dX7_wrong_48 : decode cX7_wrong 48 = .ok (.iload_n 3, 1) := by decide +kernel
theorem dX7_wrong_49 : decode cX7_wrong 49 = .ok (.caload, 1) := by decide +kernel
theorem dX7_wrong_50 : decode cX7_wrong 50 = .ok (.bipush 32, 2) := by decide +kernel
theorem dX7_wrong_52 : decode cX7_wrong 52 = .ok (.if_icmp .eq 9, 3) := by decide +kernel
theorem dX7_wrong_55 : decode cX7_wrong 55 = .ok (.iinc 3 1, 3) := by decide +kernel
theorem dX7_wrong_58 : decode cX7_wrong 58 = .ok (.goto (-22), 3) := by decide +kernel
theorem dX7_wrong_61 : decode cX7_wrong 61 = .ok (.aload_n 0, 1) := by decide +kernel
theorem dX7_wrong_62 : decode cX7_wrong 62 = .ok (.iload_n 1, 1) := by decide +kernel
theorem dX7_wrong_63 : decode cX7_wrong 63 = .ok (.iload_n 2, 1) := by decide +kernel
theorem dX7_wrong_64 : decode cX7_wrong 64 = .ok (.iload_n 3, 1) := by decide +kernel
theorem dX7_wrong_65 : decode cX7_wrong 65 = .ok (.invokevirtual 172, 3) := by decide +kernel
theorem dX7_wrong_68 : decode cX7_wrong 68 = .ok (.istore_n 1, 1) := by decide +kernel
theorem dX7_wrong_69 : decode cX7_wrong 69 = .ok (.iload_n 1, 1) := by decide +kernel
theorem dX7_wrong_70 : decode cX7_wrong 70 = .ok (.iconst (-1), 1) := by decide +kernel
theorem dX7_wrong_71 : decode cX7_wrong 71 = .ok (.if_icmp .ne 5, 3) := by decide +kernel
theorem dX7_wrong_74 : decode cX7_wrong 74 = .ok (.iload_n 2, 1) := by decide +kernel
theorem dX7_wrong_75 : decode cX7_wrong 75 = .ok (.ireturn, 1) := by decide +kernel
theorem dX7_wrong_76 : decode cX7_wrong 76 = .ok (.iload_n 3, 1) := by decide +kernel
theorem dX7_wrong_77 : decode cX7_wrong 77 = .ok (.istore_n 2, 1) := by decide +kernel
theorem dX7_wrong_78 : decode cX7_wrong 78 = .ok (.goto (-69), 3) := by decide +kernel
theorem dX7_wrong_81 : decode cX7_wrong 81 = .ok (.iload_n 1, 1) := by decide +kernel
theorem dX7_wrong_82 : decode cX7_wrong 82 = .ok (.bipush 6, 2) := by decide +kernel
theorem dX7_wrong_84 : decode cX7_wrong 84 = .ok (.if_icmp .ne 7, 3) := by decide +kernel
theorem dX7_wrong_87 : decode cX7_wrong 87 = .ok (.iconst (-1), 1) := by decide +kernel
theorem dX7_wrong_88 : decode cX7_wrong 88 = .ok (.goto 7, 3) := by decide +kernel
theorem dX7_wrong_91 : decode cX7_wrong 91 = .ok (.aload_n 0, 1) := by decide +kernel
theorem dX7_wrong_92 : decode cX7_wrong 92 = .ok (.getfield 142, 3) := by decide +kernel
theorem dX7_wrong_95 : decode cX7_wrong 95 = .ok (.ireturn, 1) := by decide +kernel
theorem dX7_wrongAt_0 : decode cX7_wrongAt 0 = .ok (.aload_n 0, 1) := by decide +kernel
theorem dX7_wrongAt_1 : decode cX7_wrongAt 1 = .ok (.iconst 0, 1) := by decide +kernel
theorem dX7_wrongAt_2 : decode cX7_wrongAt 2 = .ok (.putfield 81, 3) := by decide +kernel
theorem dX7_wrongAt_5 : decode cX7_wrongAt 5 = .ok (.aload_n 0, 1) := by decide +kernel
theorem dX7_wrongAt_6 : decode cX7_wrongAt 6 = .ok (.invokevirtual 175, 3) := by decide +kernel
theorem dX7_wrongAt_9 : decode cX7_wrongAt 9 = .ok (.ireturn, 1) := by decide +kernel
theorem dX7_read_0 : decode cX7_read 0 = .ok (.aload_n 0, 1) := by decide +kernel
theorem dX7_read_1 : decode cX7_read 1 = .ok (.aload_n 0, 1) := by decide +kernel
theorem dX7_read_2 : decode cX7_read 2 = .ok (.invokevirtual 175, 3) := by decide +kernel
theorem dX7_read_5 : decode cX7_read 5 = .ok (.iconst (-1), 1) := by decide +kernel
theorem dX7_read_6 : decode cX7_read 6 = .ok (.if_icmp .ne 7, 3) := by decide +kernel
theorem dX7_read_9 : decode cX7_read 9 = .ok (.iconst 1, 1) := by decide +kernel
theorem dX7_read_10 : decode cX7_read 10 = .ok (.goto 4, 3) := by decide +kernel
theorem dX7_read_13 : decode cX7_read 13 = .ok (.iconst 0, 1) := by decide +kernel
theorem dX7_read_14 : decode cX7_read 14 = .ok (.aload_n 0, 1) := by decide +kernel
theorem dX7_read_15 : decode cX7_read 15 = .ok (.getfield 92, 3) := by decide +kernel
theorem dX7_read_18 : decode cX7_read 18 = .ok (.bipush 12, 2) := by decide +kernel
theorem dX7_read_20 : decode cX7_read 20 = .ok (.if_icmp .ge 7, 3) := by decide +kernel
theorem dX7_read_23 : decode cX7_read 23 = .ok (.iconst 1, 1) := by decide +kernel
theorem dX7_read_24 : decode cX7_read 24 = .ok (.goto 4, 3) := by decide +kernel
theorem dX7_read_27 : decode cX7_read 27 = .ok (.iconst 0, 1) := by decide +kernel
theorem dX7_read_28 : decode cX7_read 28 = .ok (.invokevirtual 104, 3) := by decide +kernel
theorem dX7_read_31 : decode cX7_read 31 = .ok (.ifCond .ne 5, 3) := by decide +kernel
theorem dX7_read_34 : decode cX7_read 34 = .ok (.iconst 0, 1) := by decide +kernel
theorem dX7_read_35 : decode cX7_read 35 = .ok (.ireturn, 1) := by decide +kernel
theorem dX7_read_36 : decode cX7_read 36 = .ok (.aload_n 0, 1) := by decide +kernel
theorem dX7_read_37 : decode cX7_read 37 = .ok (.getfield 38, 3) := by decide +kernel
theorem dX7_read_40 : decode cX7_read 40 = .ok (.aload_n 0, 1) := by decide +kernel
theorem dX7_read_41 : decode cX7_read 41 = .ok (.getfield 92, 3) := by decide +kernel
theorem dX7_read_44 : decode cX7_read 44 = .ok (.aload_n 0, 1) := by decide +kernel
theorem dX7_read_45 : decode cX7_read 45 = .ok (.getfield 153, 3) := by decide +kernel
theorem dX7_read_48 : decode cX7_read 48 = .ok (.iastore, 1) := by decide +kernel
theorem dX7_read_49 : decode cX7_read 49 = .ok (.aload_n 0, 1) := by decide +kernel
theorem dX7_read_50 : decode cX7_read 50 = .ok (.getfield 41, 3) := by decide +kernel
theorem dX7_read_53 : decode cX7_read 53 = .ok (.aload_n 0, 1) := by decide +kernel
theorem dX7_read_54 : decode cX7_read 54 = .ok (.getfield 92, 3) := by decide +kernel
theorem dX7_read_57 : decode cX7_read 57 = .ok (.aload_n 0, 1) := by decide +kernel
theorem dX7_read_58 : decode cX7_read 58 = .ok (.getfield 160, 3) := by decide +kernel
theorem dX7_read_61 : decode cX7_read 61 = .ok (.iastore, 1) := by decide +kernel
theorem dX7_read_62 : decode cX7_read 62 = .ok (.aload_n 0, 1) := by decide +kernel
theorem dX7_read_63 : decode cX7_read 63 = .ok (.getfield 44, 3) := by decide +kernel
theorem dX7_read_66 : decode cX7_read 66 = .ok (.aload_n 0, 1) := by decide +kernel
theorem dX7_read_67 : decode cX7_read 67 = .ok (.getfield 92, 3) := by decide +kernel
theorem dX7_read_70 : decode cX7_read 70 = .ok (.aload_n 0, 1) := by decide +kernel
theorem dX7_read_71 : decode cX7_read 71 = .ok (.getfield 166, 3) := by decide +kernel
theorem dX7_read_74 : decode cX7_read 74 = .ok (.iastore, 1) := by decide +kernel
theorem dX7_read_75 : decode cX7_read 75 = .ok (.aload_n 0, 1) := by decide +kernel
theorem dX7_read_76 : decode cX7_read 76 = .ok (.getfield 47, 3) := by decide +kernel
theorem dX7_read_79 : decode cX7_read 79 = .ok (.aload_n 0, 1) := by decide +kernel
theorem dX7_read_80 : decode cX7_read 80 = .ok (.getfield 92, 3) := by decide +kernel
theorem dX7_read_83 : decode cX7_read 83 = .ok (.aload_n 0, 1) := by decide +kernel
theorem dX7_read_84 : decode cX7_read 84 = .ok (.getfield 169, 3) := by decide +kernel
theorem dX7_read_87 : decode cX7_read 87 = .ok (.iastore, 1) := by decide +kernel
theorem dX7_read_88 : decode cX7_read 88 = .ok (.aload_n 0, 1) := by decide +kernel
theorem dX7_read_89 : decode cX7_read 89 = .ok (.dup, 1) := by decide +kernel
theorem dX7_read_90 : decode cX7_read 90 = .ok (.getfield 92, 3) := by decide +kernel
theorem dX7_read_93 : decode cX7_read 93 = .ok (.iconst 1, 1) := by decide +kernel
theorem dX7_read_94 : decode cX7_read 94 = .ok (.iadd, 1) := by decide +kernel
theorem dX7_read_95 : decode cX7_read 95 = .ok (.putfield 92, 3) := by decide +kernel
theorem dX7_read_98 : decode cX7_read 98 = .ok (.aload_n 0, 1) := by decide +kernel
theorem dX7_read_99 : decode cX7_read 99 = .ok (.iconst 0, 1) := by decide +kernel
theorem dX7_read_100 : decode cX7_read 100 = .ok (.putfield 142, 3) := by decide +kernel
theorem dX7_read_103 : decode cX7_read 103 = .ok (.aload_n 0, 1) := by decide +kernel
theorem dX7_read_104 : decode cX7_read 104 = .ok (.invokevirtual 122, 3) := by decide +kernel
theorem dX7_read_107 : decode cX7_read 107 = .ok (.pop, 1) := by decide +kernel
theorem dX7_read_108 : decode cX7_read 108 = .ok (.aload_n 0, 1) := by decide +kernel
theorem dX7_read_109 : decode cX7_read 109 = .ok (.getfield 92, 3) := by decide +kernel
theorem dX7_read_112 : decode cX7_read 112 = .ok (.iconst 1, 1) := by decide +kernel
theorem dX7_read_113 : decode cX7_read 113 = .ok (.isub, 1) := by decide +kernel
theorem dX7_read_114 : decode cX7_read 114 = .ok (.ireturn, 1) := by decide +kernel
theorem dX7_drop_0 : decode cX7_drop 0 = .ok (.aload_n 0, 1) := by decide +kernel
theorem dX7_drop_1 : decode cX7_drop 1 = .ok (.iload_n 1, 1) := by decide +kernel
theorem dX7_drop_2 : decode cX7_drop 2 = .ok (.invokevirtual 178, 3) := by decide +kernel
theorem dX7_drop_5 : decode cX7_drop 5 = .ok (.istore_n 2, 1) := by decide +kernel
theorem dX7_drop_6 : decode cX7_drop 6 = .ok (.aload_n 0, 1) := by decide +kernel
theorem dX7_drop_7 : decode cX7_drop 7 = .ok (.iload_n 2, 1) := by decide +kernel
theorem dX7_drop_8 : decode cX7_drop 8 = .ok (.iload_n 2, 1) := by decide +kernel
theorem dX7_drop_9 : decode cX7_drop 9 = .ok (.ifCond .eq 16, 3) := by decide +kernel
theorem dX7_drop_12 : decode cX7_drop 12 = .ok (.aload_n 0, 1) := by decide +kernel
theorem dX7_drop_13 : decode cX7_drop 13 = .ok (.getfield 50, 3) := by decide +kernel
theorem dX7_drop_16 : decode cX7_drop 16 = .ok (.iload_n 1, 1) := by decide +kernel
theorem dX7_drop_17 : decode cX7_drop 17 = .ok (.baload, 1) := by decide +kernel
theorem dX7_drop_18 : decode cX7_drop 18 = .ok (.ifCond .ne 7, 3) := by decide +kernel
theorem dX7_drop_21 : decode cX7_drop 21 = .ok (.iconst 1, 1) := by decide +kernel
theorem dX7_drop_22 : decode cX7_drop 22 = .ok (.goto 4, 3) := by decide +kernel
theorem dX7_drop_25 : decode cX7_drop 25 = .ok (.iconst 0, 1) := by decide +kernel
theorem dX7_drop_26 : decode cX7_drop 26 = .ok (.invokevirtual 104, 3) := by decide +kernel
theorem dX7_drop_29 : decode cX7_drop 29 = .ok (.ifCond .ne 5, 3) := by decide +kernel
theorem dX7_drop_32 : decode cX7_drop 32 = .ok (.iconst 0, 1) := by decide +kernel
theorem dX7_drop_33 : decode cX7_drop 33 = .ok (.ireturn, 1) := by decide +kernel
theorem dX7_drop_34 : decode cX7_drop 34 = .ok (.aload_n 0, 1) := by decide +kernel
theorem dX7_drop_35 : decode cX7_drop 35 = .ok (.getfield 50, 3) := by decide +kernel
theorem dX7_drop_38 : decode cX7_drop 38 = .ok (.iload_n 1, 1) := by decide +kernel
theorem dX7_drop_39 : decode cX7_drop 39 = .ok (.iconst 1, 1) := by decide +kernel
theorem dX7_drop_40 : decode cX7_drop 40 = .ok (.bastore, 1) := by decide +kernel
theorem dX7_drop_41 : decode cX7_drop 41 = .ok (.aload_n 0, 1) := by decide +kernel
theorem dX7_drop_42 : decode cX7_drop 42 = .ok (.invokevirtual 122, 3) := by decide +kernel
theorem dX7_drop_45 : decode cX7_drop 45 = .ok (.ireturn, 1) := by decide +kernel
theorem dX7_dayOf_0 : decode cX7_dayOf 0 = .ok (.iload_n 0, 1) := by decide +kernel
theorem dX7_dayOf_1 : decode cX7_dayOf 1 = .ok (.bipush 24, 2) := by decide +kernel
theorem dX7_dayOf_3 : decode cX7_dayOf 3 = .ok (.idiv, 1) := by decide +kernel
theorem dX7_dayOf_4 : decode cX7_dayOf 4 = .ok (.ireturn, 1) := by decide +kernel
theorem dX7_weekOf_0 : decode cX7_weekOf 0 = .ok (.iload_n 0, 1) := by decide +kernel
theorem dX7_weekOf_1 : decode cX7_weekOf 1 = .ok (.sipush 168, 3) := by decide +kernel
theorem dX7_weekOf_4 : decode cX7_weekOf 4 = .ok (.idiv, 1) := by decide +kernel
theorem dX7_weekOf_5 : decode cX7_weekOf 5 = .ok (.ireturn, 1) := by decide +kernel
theorem dX7_weekHours_0 : decode cX7_weekHours 0 = .ok (.aload_n 0, 1) := by decide +kernel
theorem dX7_weekHours_1 : decode cX7_weekHours 1 = .ok (.getfield 31, 3) := by decide +kernel
theorem dX7_weekHours_4 : decode cX7_weekHours 4 = .ok (.iload_n 1, 1) := by decide +kernel
theorem dX7_weekHours_5 : decode cX7_weekHours 5 = .ok (.iaload, 1) := by decide +kernel
theorem dX7_weekHours_6 : decode cX7_weekHours 6 = .ok (.aload_n 0, 1) := by decide +kernel
theorem dX7_weekHours_7 : decode cX7_weekHours 7 = .ok (.getfield 28, 3) := by decide +kernel
theorem dX7_weekHours_10 : decode cX7_weekHours 10 = .ok (.iload_n 1, 1) := by decide +kernel
theorem dX7_weekHours_11 : decode cX7_weekHours 11 = .ok (.iaload, 1) := by decide +kernel
theorem dX7_weekHours_12 : decode cX7_weekHours 12 = .ok (.isub, 1) := by decide +kernel
theorem dX7_weekHours_13 : decode cX7_weekHours 13 = .ok (.istore_n 2, 1) := by decide +kernel
theorem dX7_weekHours_14 : decode cX7_weekHours 14 = .ok (.iconst 0, 1) := by decide +kernel
theorem dX7_weekHours_15 : decode cX7_weekHours 15 = .ok (.istore_n 3, 1) := by decide +kernel
theorem dX7_weekHours_16 : decode cX7_weekHours 16 = .ok (.iload_n 3, 1) := by decide +kernel
theorem dX7_weekHours_17 : decode cX7_weekHours 17 = .ok (.aload_n 0, 1) := by decide +kernel
theorem dX7_weekHours_18 : decode cX7_weekHours 18 = .ok (.getfield 89, 3) := by decide +kernel
theorem dX7_weekHours_21 : decode cX7_weekHours 21 = .ok (.if_icmp .ge 59, 3) := by decide +kernel
theorem dX7_weekHours_24 : decode cX7_weekHours 24 = .ok (.iload_n 2, 1) := by decide +kernel
theorem dX7_weekHours_25 : decode cX7_weekHours 25 = .ok (.aload_n 0, 1) := by decide +kernel
theorem dX7_weekHours_26 : decode cX7_weekHours 26 = .ok (.iload_n 3, 1) := by decide +kernel
theorem dX7_weekHours_27 : decode cX7_weekHours 27 = .ok (.iload_n 1, 1) := by decide +kernel
theorem dX7_weekHours_28 : decode cX7_weekHours 28 = .ok (.invokevirtual 134, 3) := by decide +kernel
theorem dX7_weekHours_31 : decode cX7_weekHours 31 = .ok (.ifCond .eq 40, 3) := by decide +kernel
theorem dX7_weekHours_34 : decode cX7_weekHours 34 = .ok (.aload_n 0, 1) := by decide +kernel
theorem dX7_weekHours_35 : decode cX7_weekHours 35 = .ok (.getfield 28, 3) := by decide +kernel
theorem dX7_weekHours_38 : decode cX7_weekHours 38 = .ok (.iload_n 3, 1) := by decide +kernel
theorem dX7_weekHours_39 : decode cX7_weekHours 39 = .ok (.iaload, 1) := by decide +kernel
theorem dX7_weekHours_40 : decode cX7_weekHours 40 = .ok (.invokestatic 181, 3) := by decide +kernel
theorem dX7_weekHours_43 : decode cX7_weekHours 43 = .ok (.aload_n 0, 1) := by decide +kernel
theorem dX7_weekHours_44 : decode cX7_weekHours 44 = .ok (.getfield 28, 3) := by decide +kernel
theorem dX7_weekHours_47 : decode cX7_weekHours 47 = .ok (.iload_n 1, 1) := by decide +kernel
theorem dX7_weekHours_48 : decode cX7_weekHours 48 = .ok (.iaload, 1) := by decide +kernel
theorem dX7_weekHours_49 : decode cX7_weekHours 49 = .ok (.invokestatic 181, 3) := by decide +kernel
theorem dX7_weekHours_52 : decode cX7_weekHours 52 = .ok (.if_icmp .ne 19, 3) := by decide +kernel
theorem dX7_weekHours_55 : decode cX7_weekHours 55 = .ok (.aload_n 0, 1) := by decide +kernel
theorem dX7_weekHours_56 : decode cX7_weekHours 56 = .ok (.getfield 31, 3) := by decide +kernel
theorem dX7_weekHours_59 : decode cX7_weekHours 59 = .ok (.iload_n 3, 1) := by decide +kernel
theorem dX7_weekHours_60 : decode cX7_weekHours 60 = .ok (.iaload, 1) := by decide +kernel
theorem dX7_weekHours_61 : decode cX7_weekHours 61 = .ok (.aload_n 0, 1) := by decide +kernel
theorem dX7_weekHours_62 : decode cX7_weekHours 62 = .ok (.getfield 28, 3) := by decide +kernel
theorem dX7_weekHours_65 : decode cX7_weekHours 65 = .ok (.iload_n 3, 1) := by decide +kernel
theorem dX7_weekHours_66 : decode cX7_weekHours 66 = .ok (.iaload, 1) := by decide +kernel
theorem dX7_weekHours_67 : decode cX7_weekHours 67 = .ok (.isub, 1) := by decide +kernel
theorem dX7_weekHours_68 : decode cX7_weekHours 68 = .ok (.goto 4, 3) := by decide +kernel
theorem dX7_weekHours_71 : decode cX7_weekHours 71 = .ok (.iconst 0, 1) := by decide +kernel
theorem dX7_weekHours_72 : decode cX7_weekHours 72 = .ok (.iadd, 1) := by decide +kernel
theorem dX7_weekHours_73 : decode cX7_weekHours 73 = .ok (.istore_n 2, 1) := by decide +kernel
theorem dX7_weekHours_74 : decode cX7_weekHours 74 = .ok (.iinc 3 1, 3) := by decide +kernel
theorem dX7_weekHours_77 : decode cX7_weekHours 77 = .ok (.goto (-61), 3) := by decide +kernel
theorem dX7_weekHours_80 : decode cX7_weekHours 80 = .ok (.iload_n 2, 1) := by decide +kernel
theorem dX7_weekHours_81 : decode cX7_weekHours 81 = .ok (.ireturn, 1) := by decide +kernel
theorem dX7_hasShiftOn_0 : decode cX7_hasShiftOn 0 = .ok (.iconst 0, 1) := by decide +kernel
theorem dX7_hasShiftOn_1 : decode cX7_hasShiftOn 1 = .ok (.istore_n 3, 1) := by decide +kernel
theorem dX7_hasShiftOn_2 : decode cX7_hasShiftOn 2 = .ok (.iconst 0, 1) := by decide +kernel
theorem dX7_hasShiftOn_3 : decode cX7_hasShiftOn 3 = .ok (.istore 4, 2) := by decide +kernel
theorem dX7_hasShiftOn_5 : decode cX7_hasShiftOn 5 = .ok (.iload 4, 2) := by decide +kernel
theorem dX7_hasShiftOn_7 : decode cX7_hasShiftOn 7 = .ok (.aload_n 0, 1) := by decide +kernel
theorem dX7_hasShiftOn_8 : decode cX7_hasShiftOn 8 = .ok (.getfield 89, 3) := by decide +kernel
theorem dX7_hasShiftOn_11 : decode cX7_hasShiftOn 11 = .ok (.if_icmp .ge 44, 3) := by decide +kernel
theorem dX7_hasShiftOn_14 : decode cX7_hasShiftOn 14 = .ok (.iload_n 3, 1) := by decide +kernel
theorem dX7_hasShiftOn_15 : decode cX7_hasShiftOn 15 = .ok (.ifCond .ne 28, 3) := by decide +kernel
theorem dX7_hasShiftOn_18 : decode cX7_hasShiftOn 18 = .ok (.aload_n 0, 1) := by decide +kernel
theorem dX7_hasShiftOn_19 : decode cX7_hasShiftOn 19 = .ok (.getfield 25, 3) := by decide +kernel
theorem dX7_hasShiftOn_22 : decode cX7_hasShiftOn 22 = .ok (.iload 4, 2) := by decide +kernel
theorem dX7_hasShiftOn_24 : decode cX7_hasShiftOn 24 = .ok (.iaload, 1) := by decide +kernel
theorem dX7_hasShiftOn_25 : decode cX7_hasShiftOn 25 = .ok (.iload_n 1, 1) := by decide +kernel
theorem dX7_hasShiftOn_26 : decode cX7_hasShiftOn 26 = .ok (.if_icmp .ne 21, 3) := by decide +kernel
theorem dX7_hasShiftOn_29 : decode cX7_hasShiftOn 29 = .ok (.aload_n 0, 1) := by decide +kernel
theorem dX7_hasShiftOn_30 : decode cX7_hasShiftOn 30 = .ok (.getfield 28, 3) := by decide +kernel
theorem dX7_hasShiftOn_33 : decode cX7_hasShiftOn 33 = .ok (.iload 4, 2) := by decide +kernel
theorem dX7_hasShiftOn_35 : decode cX7_hasShiftOn 35 = .ok (.iaload, 1) := by decide +kernel
theorem dX7_hasShiftOn_36 : decode cX7_hasShiftOn 36 = .ok (.invokestatic 184, 3) := by decide +kernel
theorem dX7_hasShiftOn_39 : decode cX7_hasShiftOn 39 = .ok (.iload_n 2, 1) := by decide +kernel
theorem dX7_hasShiftOn_40 : decode cX7_hasShiftOn 40 = .ok (.if_icmp .ne 7, 3) := by decide +kernel
theorem dX7_hasShiftOn_43 : decode cX7_hasShiftOn 43 = .ok (.iconst 1, 1) := by decide +kernel
theorem dX7_hasShiftOn_44 : decode cX7_hasShiftOn 44 = .ok (.goto 4, 3) := by decide +kernel
theorem dX7_hasShiftOn_47 : decode cX7_hasShiftOn 47 = .ok (.iconst 0, 1) := by decide +kernel
theorem dX7_hasShiftOn_48 : decode cX7_hasShiftOn 48 = .ok (.istore_n 3, 1) := by decide +kernel
theorem dX7_hasShiftOn_49 : decode cX7_hasShiftOn 49 = .ok (.iinc 4 1, 3) := by decide +kernel
theorem dX7_hasShiftOn_52 : decode cX7_hasShiftOn 52 = .ok (.goto (-47), 3) := by decide +kernel
theorem dX7_hasShiftOn_55 : decode cX7_hasShiftOn 55 = .ok (.iload_n 3, 1) := by decide +kernel
theorem dX7_hasShiftOn_56 : decode cX7_hasShiftOn 56 = .ok (.ireturn, 1) := by decide +kernel
theorem dX7_isInRow_0 : decode cX7_isInRow 0 = .ok (.iconst 1, 1) := by decide +kernel
theorem dX7_isInRow_1 : decode cX7_isInRow 1 = .ok (.istore_n 3, 1) := by decide +kernel
theorem dX7_isInRow_2 : decode cX7_isInRow 2 = .ok (.iconst 1, 1) := by decide +kernel
theorem dX7_isInRow_3 : decode cX7_isInRow 3 = .ok (.istore 4, 2) := by decide +kernel
theorem dX7_isInRow_5 : decode cX7_isInRow 5 = .ok (.iload 4, 2) := by decide +kernel
theorem dX7_isInRow_7 : decode cX7_isInRow 7 = .ok (.iload_n 2, 1) := by decide +kernel
theorem dX7_isInRow_8 : decode cX7_isInRow 8 = .ok (.if_icmp .gt 58, 3) := by decide +kernel
theorem dX7_isInRow_11 : decode cX7_isInRow 11 = .ok (.iload_n 3, 1) := by decide +kernel
theorem dX7_isInRow_12 : decode cX7_isInRow 12 = .ok (.ifCond .eq 54, 3) := by decide +kernel
theorem dX7_isInRow_15 : decode cX7_isInRow 15 = .ok (.aload_n 0, 1) := by decide +kernel
theorem dX7_isInRow_16 : decode cX7_isInRow 16 = .ok (.getfield 28, 3) := by decide +kernel
theorem dX7_isInRow_19 : decode cX7_isInRow 19 = .ok (.iload_n 1, 1) := by decide +kernel
theorem dX7_isInRow_20 : decode cX7_isInRow 20 = .ok (.iaload, 1) := by decide +kernel
theorem dX7_isInRow_21 : decode cX7_isInRow 21 = .ok (.invokestatic 184, 3) := by decide +kernel
theorem dX7_isInRow_24 : decode cX7_isInRow 24 = .ok (.iload 4, 2) := by decide +kernel
theorem dX7_isInRow_26 : decode cX7_isInRow 26 = .ok (.if_icmp .lt 32, 3) := by decide +kernel
theorem dX7_isInRow_29 : decode cX7_isInRow 29 = .ok (.aload_n 0, 1) := by decide +kernel
theorem dX7_isInRow_30 : decode cX7_isInRow 30 = .ok (.aload_n 0, 1) := by decide +kernel
theorem dX7_isInRow_31 : decode cX7_isInRow 31 = .ok (.getfield 25, 3) := by decide +kernel
theorem dX7_isInRow_34 : decode cX7_isInRow 34 = .ok (.iload_n 1, 1) := by decide +kernel
theorem dX7_isInRow_35 : decode cX7_isInRow 35 = .ok (.iaload, 1) := by decide +kernel
theorem dX7_isInRow_36 : decode cX7_isInRow 36 = .ok (.aload_n 0, 1) := by decide +kernel
theorem dX7_isInRow_37 : decode cX7_isInRow 37 = .ok (.getfield 28, 3) := by decide +kernel
theorem dX7_isInRow_40 : decode cX7_isInRow 40 = .ok (.iload_n 1, 1) := by decide +kernel
theorem dX7_isInRow_41 : decode cX7_isInRow 41 = .ok (.iaload, 1) := by decide +kernel
theorem dX7_isInRow_42 : decode cX7_isInRow 42 = .ok (.invokestatic 184, 3) := by decide +kernel
theorem dX7_isInRow_45 : decode cX7_isInRow 45 = .ok (.iload 4, 2) := by decide +kernel
theorem dX7_isInRow_47 : decode cX7_isInRow 47 = .ok (.isub, 1) := by decide +kernel
theorem dX7_isInRow_48 : decode cX7_isInRow 48 = .ok (.invokevirtual 187, 3) := by decide +kernel
theorem dX7_isInRow_51 : decode cX7_isInRow 51 = .ok (.ifCond .eq 7, 3) := by decide +kernel
theorem dX7_isInRow_54 : decode cX7_isInRow 54 = .ok (.iconst 1, 1) := by decide +kernel
theorem dX7_isInRow_55 : decode cX7_isInRow 55 = .ok (.goto 4, 3) := by decide +kernel
theorem dX7_isInRow_58 : decode cX7_isInRow 58 = .ok (.iconst 0, 1) := by decide +kernel
theorem dX7_isInRow_59 : decode cX7_isInRow 59 = .ok (.istore_n 3, 1) := by decide +kernel
theorem dX7_isInRow_60 : decode cX7_isInRow 60 = .ok (.iinc 4 1, 3) := by decide +kernel
theorem dX7_isInRow_63 : decode cX7_isInRow 63 = .ok (.goto (-58), 3) := by decide +kernel
theorem dX7_isInRow_66 : decode cX7_isInRow 66 = .ok (.iload_n 3, 1) := by decide +kernel
theorem dX7_isInRow_67 : decode cX7_isInRow 67 = .ok (.ireturn, 1) := by decide +kernel
theorem dX7_isBroken_0 : decode cX7_isBroken 0 = .ok (.aload_n 0, 1) := by decide +kernel
theorem dX7_isBroken_1 : decode cX7_isBroken 1 = .ok (.getfield 25, 3) := by decide +kernel
theorem dX7_isBroken_4 : decode cX7_isBroken 4 = .ok (.iload_n 1, 1) := by decide +kernel
theorem dX7_isBroken_5 : decode cX7_isBroken 5 = .ok (.iaload, 1) := by decide +kernel
theorem dX7_isBroken_6 : decode cX7_isBroken 6 = .ok (.iconst (-1), 1) := by decide +kernel
theorem dX7_isBroken_7 : decode cX7_isBroken 7 = .ok (.if_icmp .eq 37, 3) := by decide +kernel
theorem dX7_isBroken_10 : decode cX7_isBroken 10 = .ok (.aload_n 0, 1) := by decide +kernel
theorem dX7_isBroken_11 : decode cX7_isBroken 11 = .ok (.getfield 50, 3) := by decide +kernel
theorem dX7_isBroken_14 : decode cX7_isBroken 14 = .ok (.iload_n 2, 1) := by decide +kernel
theorem dX7_isBroken_15 : decode cX7_isBroken 15 = .ok (.baload, 1) := by decide +kernel
theorem dX7_isBroken_16 : decode cX7_isBroken 16 = .ok (.ifCond .ne 28, 3) := by decide +kernel
theorem dX7_isBroken_19 : decode cX7_isBroken 19 = .ok (.aload_n 0, 1) := by decide +kernel
theorem dX7_isBroken_20 : decode cX7_isBroken 20 = .ok (.getfield 44, 3) := by decide +kernel
theorem dX7_isBroken_23 : decode cX7_isBroken 23 = .ok (.iload_n 2, 1) := by decide +kernel
theorem dX7_isBroken_24 : decode cX7_isBroken 24 = .ok (.iaload, 1) := by decide +kernel
theorem dX7_isBroken_25 : decode cX7_isBroken 25 = .ok (.iconst (-1), 1) := by decide +kernel
theorem dX7_isBroken_26 : decode cX7_isBroken 26 = .ok (.if_icmp .eq 20, 3) := by decide +kernel
theorem dX7_isBroken_29 : decode cX7_isBroken 29 = .ok (.aload_n 0, 1) := by decide +kernel
theorem dX7_isBroken_30 : decode cX7_isBroken 30 = .ok (.getfield 44, 3) := by decide +kernel
theorem dX7_isBroken_33 : decode cX7_isBroken 33 = .ok (.iload_n 2, 1) := by decide +kernel
theorem dX7_isBroken_34 : decode cX7_isBroken 34 = .ok (.iaload, 1) := by decide +kernel
theorem dX7_isBroken_35 : decode cX7_isBroken 35 = .ok (.aload_n 0, 1) := by decide +kernel
theorem dX7_isBroken_36 : decode cX7_isBroken 36 = .ok (.getfield 22, 3) := by decide +kernel
theorem dX7_isBroken_39 : decode cX7_isBroken 39 = .ok (.iload_n 1, 1) := by decide +kernel
theorem dX7_isBroken_40 : decode cX7_isBroken 40 = .ok (.iaload, 1) := by decide +kernel
theorem dX7_isBroken_41 : decode cX7_isBroken 41 = .ok (.if_icmp .eq 5, 3) := by decide +kernel
theorem dX7_isBroken_44 : decode cX7_isBroken 44 = .ok (.iconst 0, 1) := by decide +kernel
theorem dX7_isBroken_45 : decode cX7_isBroken 45 = .ok (.ireturn, 1) := by decide +kernel
theorem dX7_isBroken_46 : decode cX7_isBroken 46 = .ok (.aload_n 0, 1) := by decide +kernel
theorem dX7_isBroken_47 : decode cX7_isBroken 47 = .ok (.getfield 41, 3) := by decide +kernel
theorem dX7_isBroken_50 : decode cX7_isBroken 50 = .ok (.iload_n 2, 1) := by decide +kernel
theorem dX7_isBroken_51 : decode cX7_isBroken 51 = .ok (.iaload, 1) := by decide +kernel
theorem dX7_isBroken_52 : decode cX7_isBroken 52 = .ok (.istore_n 3, 1) := by decide +kernel
theorem dX7_isBroken_53 : decode cX7_isBroken 53 = .ok (.aload_n 0, 1) := by decide +kernel
theorem dX7_isBroken_54 : decode cX7_isBroken 54 = .ok (.getfield 38, 3) := by decide +kernel
theorem dX7_isBroken_57 : decode cX7_isBroken 57 = .ok (.iload_n 2, 1) := by decide +kernel
theorem dX7_isBroken_58 : decode cX7_isBroken 58 = .ok (.iaload, 1) := by decide +kernel
theorem dX7_isBroken_59 : decode cX7_isBroken 59 = .ok (.ifCond .ne 40, 3) := by decide +kernel
theorem dX7_isBroken_62 : decode cX7_isBroken 62 = .ok (.aload_n 0, 1) := by decide +kernel
theorem dX7_isBroken_63 : decode cX7_isBroken 63 = .ok (.iload_n 1, 1) := by decide +kernel
theorem dX7_isBroken_64 : decode cX7_isBroken 64 = .ok (.invokevirtual 138, 3) := by decide +kernel
theorem dX7_isBroken_67 : decode cX7_isBroken 67 = .ok (.istore 4, 2) := by decide +kernel
theorem dX7_isBroken_69 : decode cX7_isBroken 69 = .ok (.iload 4, 2) := by decide +kernel
theorem dX7_isBroken_71 : decode cX7_isBroken 71 = .ok (.iconst (-1), 1) := by decide +kernel
theorem dX7_isBroken_72 : decode cX7_isBroken 72 = .ok (.if_icmp .eq 25, 3) := by decide +kernel
theorem dX7_isBroken_75 : decode cX7_isBroken 75 = .ok (.aload_n 0, 1) := by decide +kernel
theorem dX7_isBroken_76 : decode cX7_isBroken 76 = .ok (.getfield 28, 3) := by decide +kernel
theorem dX7_isBroken_79 : decode cX7_isBroken 79 = .ok (.iload_n 1, 1) := by decide +kernel
theorem dX7_isBroken_80 : decode cX7_isBroken 80 = .ok (.iaload, 1) := by decide +kernel
theorem dX7_isBroken_81 : decode cX7_isBroken 81 = .ok (.aload_n 0, 1) := by decide +kernel
theorem dX7_isBroken_82 : decode cX7_isBroken 82 = .ok (.getfield 31, 3) := by decide +kernel
theorem dX7_isBroken_85 : decode cX7_isBroken 85 = .ok (.iload 4, 2) := by decide +kernel
theorem dX7_isBroken_87 : decode cX7_isBroken 87 = .ok (.iaload, 1) := by decide +kernel
theorem dX7_isBroken_88 : decode cX7_isBroken 88 = .ok (.isub, 1) := by decide +kernel
theorem dX7_isBroken_89 : decode cX7_isBroken 89 = .ok (.iload_n 3, 1) := by decide +kernel
theorem dX7_isBroken_90 : decode cX7_isBroken 90 = .ok (.if_icmp .ge 7, 3) := by decide +kernel
theorem dX7_isBroken_93 : decode cX7_isBroken 93 = .ok (.iconst 1, 1) := by decide +kernel
theorem dX7_isBroken_94 : decode cX7_isBroken 94 = .ok (.goto 4, 3) := by decide +kernel
theorem dX7_isBroken_97 : decode cX7_isBroken 97 = .ok (.iconst 0, 1) := by decide +kernel
theorem dX7_isBroken_98 : decode cX7_isBroken 98 = .ok (.ireturn, 1) := by decide +kernel
theorem dX7_isBroken_99 : decode cX7_isBroken 99 = .ok (.aload_n 0, 1) := by decide +kernel
theorem dX7_isBroken_100 : decode cX7_isBroken 100 = .ok (.getfield 38, 3) := by decide +kernel
theorem dX7_isBroken_103 : decode cX7_isBroken 103 = .ok (.iload_n 2, 1) := by decide +kernel
theorem dX7_isBroken_104 : decode cX7_isBroken 104 = .ok (.iaload, 1) := by decide +kernel
theorem dX7_isBroken_105 : decode cX7_isBroken 105 = .ok (.iconst 1, 1) := by decide +kernel
theorem dX7_isBroken_106 : decode cX7_isBroken 106 = .ok (.if_icmp .ne 18, 3) := by decide +kernel
theorem dX7_isBroken_109 : decode cX7_isBroken 109 = .ok (.aload_n 0, 1) := by decide +kernel
theorem dX7_isBroken_110 : decode cX7_isBroken 110 = .ok (.iload_n 1, 1) := by decide +kernel
theorem dX7_isBroken_111 : decode cX7_isBroken 111 = .ok (.invokevirtual 190, 3) := by decide +kernel
theorem dX7_isBroken_114 : decode cX7_isBroken 114 = .ok (.iload_n 3, 1) := by decide +kernel
theorem dX7_isBroken_115 : decode cX7_isBroken 115 = .ok (.if_icmp .le 7, 3) := by decide +kernel
theorem dX7_isBroken_118 : decode cX7_isBroken 118 = .ok (.iconst 1, 1) := by decide +kernel
theorem dX7_isBroken_119 : decode cX7_isBroken 119 = .ok (.goto 4, 3) := by decide +kernel
theorem dX7_isBroken_122 : decode cX7_isBroken 122 = .ok (.iconst 0, 1) := by decide +kernel
theorem dX7_isBroken_123 : decode cX7_isBroken 123 = .ok (.ireturn, 1) := by decide +kernel
theorem dX7_isBroken_124 : decode cX7_isBroken 124 = .ok (.aload_n 0, 1) := by decide +kernel
theorem dX7_isBroken_125 : decode cX7_isBroken 125 = .ok (.getfield 38, 3) := by decide +kernel
theorem dX7_isBroken_128 : decode cX7_isBroken 128 = .ok (.iload_n 2, 1) := by decide +kernel
theorem dX7_isBroken_129 : decode cX7_isBroken 129 = .ok (.iaload, 1) := by decide +kernel
theorem dX7_isBroken_130 : decode cX7_isBroken 130 = .ok (.iconst 2, 1) := by decide +kernel
theorem dX7_isBroken_131 : decode cX7_isBroken 131 = .ok (.if_icmp .ne 12, 3) := by decide +kernel
theorem dX7_isBroken_134 : decode cX7_isBroken 134 = .ok (.aload_n 0, 1) := by decide +kernel
theorem dX7_isBroken_135 : decode cX7_isBroken 135 = .ok (.iload_n 1, 1) := by decide +kernel
theorem dX7_isBroken_136 : decode cX7_isBroken 136 = .ok (.iload_n 3, 1) := by decide +kernel
theorem dX7_isBroken_137 : decode cX7_isBroken 137 = .ok (.invokevirtual 193, 3) := by decide +kernel
theorem dX7_isBroken_140 : decode cX7_isBroken 140 = .ok (.goto 25, 3) := by decide +kernel
theorem dX7_isBroken_143 : decode cX7_isBroken 143 = .ok (.aload_n 0, 1) := by decide +kernel
theorem dX7_isBroken_144 : decode cX7_isBroken 144 = .ok (.getfield 31, 3) := by decide +kernel
theorem dX7_isBroken_147 : decode cX7_isBroken 147 = .ok (.iload_n 1, 1) := by decide +kernel
theorem dX7_isBroken_148 : decode cX7_isBroken 148 = .ok (.iaload, 1) := by decide +kernel
theorem dX7_isBroken_149 : decode cX7_isBroken 149 = .ok (.aload_n 0, 1) := by decide +kernel
theorem dX7_isBroken_150 : decode cX7_isBroken 150 = .ok (.getfield 28, 3) := by decide +kernel
theorem dX7_isBroken_153 : decode cX7_isBroken 153 = .ok (.iload_n 1, 1) := by decide +kernel
theorem dX7_isBroken_154 : decode cX7_isBroken 154 = .ok (.iaload, 1) := by decide +kernel
theorem dX7_isBroken_155 : decode cX7_isBroken 155 = .ok (.isub, 1) := by decide +kernel
theorem dX7_isBroken_156 : decode cX7_isBroken 156 = .ok (.iload_n 3, 1) := by decide +kernel
theorem dX7_isBroken_157 : decode cX7_isBroken 157 = .ok (.if_icmp .le 7, 3) := by decide +kernel
theorem dX7_isBroken_160 : decode cX7_isBroken 160 = .ok (.iconst 1, 1) := by decide +kernel
theorem dX7_isBroken_161 : decode cX7_isBroken 161 = .ok (.goto 4, 3) := by decide +kernel
theorem dX7_isBroken_164 : decode cX7_isBroken 164 = .ok (.iconst 0, 1) := by decide +kernel
theorem dX7_isBroken_165 : decode cX7_isBroken 165 = .ok (.ireturn, 1) := by decide +kernel
theorem dX7_breaks_0 : decode cX7_breaks 0 = .ok (.aload_n 0, 1) := by decide +kernel
theorem dX7_breaks_1 : decode cX7_breaks 1 = .ok (.aload_n 0, 1) := by decide +kernel
theorem dX7_breaks_2 : decode cX7_breaks 2 = .ok (.iload_n 1, 1) := by decide +kernel
theorem dX7_breaks_3 : decode cX7_breaks 3 = .ok (.invokevirtual 112, 3) := by decide +kernel
theorem dX7_breaks_6 : decode cX7_breaks 6 = .ok (.ifCond .eq 15, 3) := by decide +kernel
theorem dX7_breaks_9 : decode cX7_breaks 9 = .ok (.aload_n 0, 1) := by decide +kernel
theorem dX7_breaks_10 : decode cX7_breaks 10 = .ok (.iload_n 2, 1) := by decide +kernel
theorem dX7_breaks_11 : decode cX7_breaks 11 = .ok (.invokevirtual 178, 3) := by decide +kernel
theorem dX7_breaks_14 : decode cX7_breaks 14 = .ok (.ifCond .eq 7, 3) := by decide +kernel
theorem dX7_breaks_17 : decode cX7_breaks 17 = .ok (.iconst 1, 1) := by decide +kernel
theorem dX7_breaks_18 : decode cX7_breaks 18 = .ok (.goto 4, 3) := by decide +kernel
theorem dX7_breaks_21 : decode cX7_breaks 21 = .ok (.iconst 0, 1) := by decide +kernel
theorem dX7_breaks_22 : decode cX7_breaks 22 = .ok (.invokevirtual 130, 3) := by decide +kernel
theorem dX7_breaks_25 : decode cX7_breaks 25 = .ok (.ifCond .eq 16, 3) := by decide +kernel
theorem dX7_breaks_28 : decode cX7_breaks 28 = .ok (.aload_n 0, 1) := by decide +kernel
theorem dX7_breaks_29 : decode cX7_breaks 29 = .ok (.iload_n 1, 1) := by decide +kernel
theorem dX7_breaks_30 : decode cX7_breaks 30 = .ok (.iload_n 2, 1) := by decide +kernel
theorem dX7_breaks_31 : decode cX7_breaks 31 = .ok (.invokevirtual 196, 3) := by decide +kernel
theorem dX7_breaks_34 : decode cX7_breaks 34 = .ok (.ifCond .eq 7, 3) := by decide +kernel
theorem dX7_breaks_37 : decode cX7_breaks 37 = .ok (.iconst 1, 1) := by decide +kernel
theorem dX7_breaks_38 : decode cX7_breaks 38 = .ok (.goto 4, 3) := by decide +kernel
theorem dX7_breaks_41 : decode cX7_breaks 41 = .ok (.iconst 0, 1) := by decide +kernel
theorem dX7_breaks_42 : decode cX7_breaks 42 = .ok (.ireturn, 1) := by decide +kernel
theorem dX7_breaches_0 : decode cX7_breaches 0 = .ok (.aload_n 0, 1) := by decide +kernel
theorem dX7_breaches_1 : decode cX7_breaches 1 = .ok (.iload_n 1, 1) := by decide +kernel
theorem dX7_breaches_2 : decode cX7_breaches 2 = .ok (.invokestatic 108, 3) := by decide +kernel
theorem dX7_breaches_5 : decode cX7_breaches 5 = .ok (.iload_n 2, 1) := by decide +kernel
theorem dX7_breaches_6 : decode cX7_breaches 6 = .ok (.iconst 0, 1) := by decide +kernel
theorem dX7_breaches_7 : decode cX7_breaches 7 = .ok (.bipush 11, 2) := by decide +kernel
theorem dX7_breaches_9 : decode cX7_breaches 9 = .ok (.invokestatic 85, 3) := by decide +kernel
theorem dX7_breaches_12 : decode cX7_breaches 12 = .ok (.invokevirtual 104, 3) := by decide +kernel
theorem dX7_breaches_15 : decode cX7_breaches 15 = .ok (.ifCond .ne 5, 3) := by decide +kernel
theorem dX7_breaches_18 : decode cX7_breaches 18 = .ok (.iconst 0, 1) := by decide +kernel
theorem dX7_breaches_19 : decode cX7_breaches 19 = .ok (.ireturn, 1) := by decide +kernel
theorem dX7_breaches_20 : decode cX7_breaches 20 = .ok (.iconst 0, 1) := by decide +kernel
theorem dX7_breaches_21 : decode cX7_breaches 21 = .ok (.istore_n 3, 1) := by decide +kernel
theorem dX7_breaches_22 : decode cX7_breaches 22 = .ok (.iconst 0, 1) := by decide +kernel
theorem dX7_breaches_23 : decode cX7_breaches 23 = .ok (.istore 4, 2) := by decide +kernel
theorem dX7_breaches_25 : decode cX7_breaches 25 = .ok (.iload 4, 2) := by decide +kernel
theorem dX7_breaches_27 : decode cX7_breaches 27 = .ok (.aload_n 0, 1) := by decide +kernel
theorem dX7_breaches_28 : decode cX7_breaches 28 = .ok (.getfield 89, 3) := by decide +kernel
theorem dX7_breaches_31 : decode cX7_breaches 31 = .ok (.if_icmp .ge 71, 3) := by decide +kernel
theorem dX7_breaches_34 : decode cX7_breaches 34 = .ok (.iconst 0, 1) := by decide +kernel
theorem dX7_breaches_35 : decode cX7_breaches 35 = .ok (.istore 5, 2) := by decide +kernel
theorem dX7_breaches_37 : decode cX7_breaches 37 = .ok (.iload 5, 2) := by decide +kernel
theorem dX7_breaches_39 : decode cX7_breaches 39 = .ok (.aload_n 0, 1) := by decide +kernel
theorem dX7_breaches_40 : decode cX7_breaches 40 = .ok (.getfield 92, 3) := by decide +kernel
theorem dX7_breaches_43 : decode cX7_breaches 43 = .ok (.if_icmp .ge 53, 3) := by decide +kernel
theorem dX7_breaches_46 : decode cX7_breaches 46 = .ok (.iload_n 3, 1) := by decide +kernel
theorem dX7_breaches_47 : decode cX7_breaches 47 = .ok (.aload_n 0, 1) := by decide +kernel
theorem dX7_breaches_48 : decode cX7_breaches 48 = .ok (.getfield 25, 3) := by decide +kernel
theorem dX7_breaches_51 : decode cX7_breaches 51 = .ok (.iload 4, 2) := by decide +kernel
theorem dX7_breaches_53 : decode cX7_breaches 53 = .ok (.iaload, 1) := by decide +kernel
theorem dX7_breaches_54 : decode cX7_breaches 54 = .ok (.iload_n 1, 1) := by decide +kernel
theorem dX7_breaches_55 : decode cX7_breaches 55 = .ok (.if_icmp .ne 32, 3) := by decide +kernel
theorem dX7_breaches_58 : decode cX7_breaches 58 = .ok (.aload_n 0, 1) := by decide +kernel
theorem dX7_breaches_59 : decode cX7_breaches 59 = .ok (.getfield 28, 3) := by decide +kernel
theorem dX7_breaches_62 : decode cX7_breaches 62 = .ok (.iload 4, 2) := by decide +kernel
theorem dX7_breaches_64 : decode cX7_breaches 64 = .ok (.iaload, 1) := by decide +kernel
theorem dX7_breaches_65 : decode cX7_breaches 65 = .ok (.invokestatic 181, 3) := by decide +kernel
theorem dX7_breaches_68 : decode cX7_breaches 68 = .ok (.iload_n 2, 1) := by decide +kernel
theorem dX7_breaches_69 : decode cX7_breaches 69 = .ok (.if_icmp .ne 18, 3) := by decide +kernel
theorem dX7_breaches_72 : decode cX7_breaches 72 = .ok (.aload_n 0, 1) := by decide +kernel
theorem dX7_breaches_73 : decode cX7_breaches 73 = .ok (.iload 4, 2) := by decide +kernel
theorem dX7_breaches_75 : decode cX7_breaches 75 = .ok (.iload 5, 2) := by decide +kernel
theorem dX7_breaches_77 : decode cX7_breaches 77 = .ok (.invokevirtual 196, 3) := by decide +kernel
theorem dX7_breaches_80 : decode cX7_breaches 80 = .ok (.ifCond .eq 7, 3) := by decide +kernel
theorem dX7_breaches_83 : decode cX7_breaches 83 = .ok (.iconst 1, 1) := by decide +kernel
theorem dX7_breaches_84 : decode cX7_breaches 84 = .ok (.goto 4, 3) := by decide +kernel
theorem dX7_breaches_87 : decode cX7_breaches 87 = .ok (.iconst 0, 1) := by decide +kernel
theorem dX7_breaches_88 : decode cX7_breaches 88 = .ok (.iadd, 1) := by decide +kernel
theorem dX7_breaches_89 : decode cX7_breaches 89 = .ok (.istore_n 3, 1) := by decide +kernel
theorem dX7_breaches_90 : decode cX7_breaches 90 = .ok (.iinc 5 1, 3) := by decide +kernel
theorem dX7_breaches_93 : decode cX7_breaches 93 = .ok (.goto (-56), 3) := by decide +kernel
theorem dX7_breaches_96 : decode cX7_breaches 96 = .ok (.iinc 4 1, 3) := by decide +kernel
theorem dX7_breaches_99 : decode cX7_breaches 99 = .ok (.goto (-74), 3) := by decide +kernel
theorem dX7_breaches_102 : decode cX7_breaches 102 = .ok (.iload_n 3, 1) := by decide +kernel
theorem dX7_breaches_103 : decode cX7_breaches 103 = .ok (.ireturn, 1) := by decide +kernel
theorem dX7_claimFor_0 : decode cX7_claimFor 0 = .ok (.iconst 0, 1) := by decide +kernel
theorem dX7_claimFor_1 : decode cX7_claimFor 1 = .ok (.istore 4, 2) := by decide +kernel
theorem dX7_claimFor_3 : decode cX7_claimFor 3 = .ok (.iload 4, 2) := by decide +kernel
theorem dX7_claimFor_5 : decode cX7_claimFor 5 = .ok (.aload_n 0, 1) := by decide +kernel
theorem dX7_claimFor_6 : decode cX7_claimFor 6 = .ok (.getfield 95, 3) := by decide +kernel
theorem dX7_claimFor_9 : decode cX7_claimFor 9 = .ok (.if_icmp .ge 45, 3) := by decide +kernel
theorem dX7_claimFor_12 : decode cX7_claimFor 12 = .ok (.aload_n 0, 1) := by decide +kernel
theorem dX7_claimFor_13 : decode cX7_claimFor 13 = .ok (.getfield 54, 3) := by decide +kernel
theorem dX7_claimFor_16 : decode cX7_claimFor 16 = .ok (.iload 4, 2) := by decide +kernel
theorem dX7_claimFor_18 : decode cX7_claimFor 18 = .ok (.iaload, 1) := by decide +kernel
theorem dX7_claimFor_19 : decode cX7_claimFor 19 = .ok (.iload_n 1, 1) := by decide +kernel
theorem dX7_claimFor_20 : decode cX7_claimFor 20 = .ok (.if_icmp .ne 28, 3) := by decide +kernel
theorem dX7_claimFor_23 : decode cX7_claimFor 23 = .ok (.aload_n 0, 1) := by decide +kernel
theorem dX7_claimFor_24 : decode cX7_claimFor 24 = .ok (.getfield 57, 3) := by decide +kernel
theorem dX7_claimFor_27 : decode cX7_claimFor 27 = .ok (.iload 4, 2) := by decide +kernel
theorem dX7_claimFor_29 : decode cX7_claimFor 29 = .ok (.iaload, 1) := by decide +kernel
theorem dX7_claimFor_30 : decode cX7_claimFor 30 = .ok (.iload_n 2, 1) := by decide +kernel
theorem dX7_claimFor_31 : decode cX7_claimFor 31 = .ok (.if_icmp .ne 17, 3) := by decide +kernel
theorem dX7_claimFor_34 : decode cX7_claimFor 34 = .ok (.aload_n 0, 1) := by decide +kernel
theorem dX7_claimFor_35 : decode cX7_claimFor 35 = .ok (.getfield 60, 3) := by decide +kernel
theorem dX7_claimFor_38 : decode cX7_claimFor 38 = .ok (.iload 4, 2) := by decide +kernel
theorem dX7_claimFor_40 : decode cX7_claimFor 40 = .ok (.iaload, 1) := by decide +kernel
theorem dX7_claimFor_41 : decode cX7_claimFor 41 = .ok (.iload_n 3, 1) := by decide +kernel
theorem dX7_claimFor_42 : decode cX7_claimFor 42 = .ok (.if_icmp .ne 6, 3) := by decide +kernel
theorem dX7_claimFor_45 : decode cX7_claimFor 45 = .ok (.iload 4, 2) := by decide +kernel
theorem dX7_claimFor_47 : decode cX7_claimFor 47 = .ok (.ireturn, 1) := by decide +kernel
theorem dX7_claimFor_48 : decode cX7_claimFor 48 = .ok (.iinc 4 1, 3) := by decide +kernel
theorem dX7_claimFor_51 : decode cX7_claimFor 51 = .ok (.goto (-48), 3) := by decide +kernel
theorem dX7_claimFor_54 : decode cX7_claimFor 54 = .ok (.iconst (-1), 1) := by decide +kernel
theorem dX7_claimFor_55 : decode cX7_claimFor 55 = .ok (.ireturn, 1) := by decide +kernel
theorem dX7_make_0 : decode cX7_make 0 = .ok (.aload_n 0, 1) := by decide +kernel
theorem dX7_make_1 : decode cX7_make 1 = .ok (.getfield 95, 3) := by decide +kernel
theorem dX7_make_4 : decode cX7_make 4 = .ok (.sipush 200, 3) := by decide +kernel
theorem dX7_make_7 : decode cX7_make 7 = .ok (.if_icmp .ge 53, 3) := by decide +kernel
theorem dX7_make_10 : decode cX7_make 10 = .ok (.aload_n 0, 1) := by decide +kernel
theorem dX7_make_11 : decode cX7_make 11 = .ok (.getfield 54, 3) := by decide +kernel
theorem dX7_make_14 : decode cX7_make 14 = .ok (.aload_n 0, 1) := by decide +kernel
theorem dX7_make_15 : decode cX7_make 15 = .ok (.getfield 95, 3) := by decide +kernel
theorem dX7_make_18 : decode cX7_make 18 = .ok (.iload_n 1, 1) := by decide +kernel
theorem dX7_make_19 : decode cX7_make 19 = .ok (.iastore, 1) := by decide +kernel
theorem dX7_make_20 : decode cX7_make 20 = .ok (.aload_n 0, 1) := by decide +kernel
theorem dX7_make_21 : decode cX7_make 21 = .ok (.getfield 57, 3) := by decide +kernel
theorem dX7_make_24 : decode cX7_make 24 = .ok (.aload_n 0, 1) := by decide +kernel
theorem dX7_make_25 : decode cX7_make 25 = .ok (.getfield 95, 3) := by decide +kernel
theorem dX7_make_28 : decode cX7_make 28 = .ok (.iload_n 2, 1) := by decide +kernel
theorem dX7_make_29 : decode cX7_make 29 = .ok (.iastore, 1) := by decide +kernel
theorem dX7_make_30 : decode cX7_make 30 = .ok (.aload_n 0, 1) := by decide +kernel
theorem dX7_make_31 : decode cX7_make 31 = .ok (.getfield 60, 3) := by decide +kernel
theorem dX7_make_34 : decode cX7_make 34 = .ok (.aload_n 0, 1) := by decide +kernel
theorem dX7_make_35 : decode cX7_make 35 = .ok (.getfield 95, 3) := by decide +kernel
theorem dX7_make_38 : decode cX7_make 38 = .ok (.iload_n 3, 1) := by decide +kernel
theorem dX7_make_39 : decode cX7_make 39 = .ok (.iastore, 1) := by decide +kernel
theorem dX7_make_40 : decode cX7_make 40 = .ok (.aload_n 0, 1) := by decide +kernel
theorem dX7_make_41 : decode cX7_make 41 = .ok (.getfield 63, 3) := by decide +kernel
theorem dX7_make_44 : decode cX7_make 44 = .ok (.aload_n 0, 1) := by decide +kernel
theorem dX7_make_45 : decode cX7_make 45 = .ok (.getfield 95, 3) := by decide +kernel
theorem dX7_make_48 : decode cX7_make 48 = .ok (.iconst 0, 1) := by decide +kernel
theorem dX7_make_49 : decode cX7_make 49 = .ok (.iastore, 1) := by decide +kernel
theorem dX7_make_50 : decode cX7_make 50 = .ok (.aload_n 0, 1) := by decide +kernel
theorem dX7_make_51 : decode cX7_make 51 = .ok (.dup, 1) := by decide +kernel
theorem dX7_make_52 : decode cX7_make 52 = .ok (.getfield 95, 3) := by decide +kernel
theorem dX7_make_55 : decode cX7_make 55 = .ok (.iconst 1, 1) := by decide +kernel
theorem dX7_make_56 : decode cX7_make 56 = .ok (.iadd, 1) := by decide +kernel
theorem dX7_make_57 : decode cX7_make 57 = .ok (.putfield 95, 3) := by decide +kernel
theorem dX7_make_60 : decode cX7_make 60 = .ok (.return_, 1) := by decide +kernel
theorem dX7_judge_0 : decode cX7_judge 0 = .ok (.iconst 0, 1) := by decide +kernel
theorem dX7_judge_1 : decode cX7_judge 1 = .ok (.istore_n 1, 1) := by decide +kernel
theorem dX7_judge_2 : decode cX7_judge 2 = .ok (.iconst 0, 1) := by decide +kernel
theorem dX7_judge_3 : decode cX7_judge 3 = .ok (.istore_n 2, 1) := by decide +kernel
theorem dX7_judge_4 : decode cX7_judge 4 = .ok (.iload_n 2, 1) := by decide +kernel
theorem dX7_judge_5 : decode cX7_judge 5 = .ok (.aload_n 0, 1) := by decide +kernel
theorem dX7_judge_6 : decode cX7_judge 6 = .ok (.getfield 95, 3) := by decide +kernel
theorem dX7_judge_9 : decode cX7_judge 9 = .ok (.if_icmp .ge 91, 3) := by decide +kernel
theorem dX7_judge_12 : decode cX7_judge 12 = .ok (.aload_n 0, 1) := by decide +kernel
theorem dX7_judge_13 : decode cX7_judge 13 = .ok (.getfield 25, 3) := by decide +kernel
theorem dX7_judge_16 : decode cX7_judge 16 = .ok (.aload_n 0, 1) := by decide +kernel
theorem dX7_judge_17 : decode cX7_judge 17 = .ok (.getfield 57, 3) := by decide +kernel
theorem dX7_judge_20 : decode cX7_judge 20 = .ok (.iload_n 2, 1) := by decide +kernel
theorem dX7_judge_21 : decode cX7_judge 21 = .ok (.iaload, 1) := by decide +kernel
theorem dX7_judge_22 : decode cX7_judge 22 = .ok (.iaload, 1) := by decide +kernel
theorem dX7_judge_23 : decode cX7_judge 23 = .ok (.aload_n 0, 1) := by decide +kernel
theorem dX7_judge_24 : decode cX7_judge 24 = .ok (.getfield 54, 3) := by decide +kernel
theorem dX7_judge_27 : decode cX7_judge 27 = .ok (.iload_n 2, 1) := by decide +kernel
theorem dX7_judge_28 : decode cX7_judge 28 = .ok (.iaload, 1) := by decide +kernel
theorem dX7_judge_29 : decode cX7_judge 29 = .ok (.if_icmp .ne 26, 3) := by decide +kernel
theorem dX7_judge_32 : decode cX7_judge 32 = .ok (.aload_n 0, 1) := by decide +kernel
theorem dX7_judge_33 : decode cX7_judge 33 = .ok (.aload_n 0, 1) := by decide +kernel
theorem dX7_judge_34 : decode cX7_judge 34 = .ok (.getfield 57, 3) := by decide +kernel
theorem dX7_judge_37 : decode cX7_judge 37 = .ok (.iload_n 2, 1) := by decide +kernel
theorem dX7_judge_38 : decode cX7_judge 38 = .ok (.iaload, 1) := by decide +kernel
theorem dX7_judge_39 : decode cX7_judge 39 = .ok (.aload_n 0, 1) := by decide +kernel
theorem dX7_judge_40 : decode cX7_judge 40 = .ok (.getfield 60, 3) := by decide +kernel
theorem dX7_judge_43 : decode cX7_judge 43 = .ok (.iload_n 2, 1) := by decide +kernel
theorem dX7_judge_44 : decode cX7_judge 44 = .ok (.iaload, 1) := by decide +kernel
theorem dX7_judge_45 : decode cX7_judge 45 = .ok (.invokevirtual 196, 3) := by decide +kernel
theorem dX7_judge_48 : decode cX7_judge 48 = .ok (.ifCond .eq 7, 3) := by decide +kernel
theorem dX7_judge_51 : decode cX7_judge 51 = .ok (.iconst 1, 1) := by decide +kernel
theorem dX7_judge_52 : decode cX7_judge 52 = .ok (.goto 4, 3) := by decide +kernel
theorem dX7_judge_55 : decode cX7_judge 55 = .ok (.iconst 0, 1) := by decide +kernel
theorem dX7_judge_56 : decode cX7_judge 56 = .ok (.istore_n 3, 1) := by decide +kernel
theorem dX7_judge_57 : decode cX7_judge 57 = .ok (.iload_n 3, 1) := by decide +kernel
theorem dX7_judge_58 : decode cX7_judge 58 = .ok (.ifCond .ne 36, 3) := by decide +kernel
theorem dX7_judge_61 : decode cX7_judge 61 = .ok (.aload_n 0, 1) := by decide +kernel
theorem dX7_judge_62 : decode cX7_judge 62 = .ok (.getfield 63, 3) := by decide +kernel
theorem dX7_judge_65 : decode cX7_judge 65 = .ok (.iload_n 2, 1) := by decide +kernel
theorem dX7_judge_66 : decode cX7_judge 66 = .ok (.iaload, 1) := by decide +kernel
theorem dX7_judge_67 : decode cX7_judge 67 = .ok (.iconst 2, 1) := by decide +kernel
theorem dX7_judge_68 : decode cX7_judge 68 = .ok (.if_icmp .ge 26, 3) := by decide +kernel
theorem dX7_judge_71 : decode cX7_judge 71 = .ok (.aload_n 0, 1) := by decide +kernel
theorem dX7_judge_72 : decode cX7_judge 72 = .ok (.getfield 63, 3) := by decide +kernel
theorem dX7_judge_75 : decode cX7_judge 75 = .ok (.iload_n 2, 1) := by decide +kernel
theorem dX7_judge_76 : decode cX7_judge 76 = .ok (.aload_n 0, 1) := by decide +kernel
theorem dX7_judge_77 : decode cX7_judge 77 = .ok (.getfield 63, 3) := by decide +kernel
theorem dX7_judge_80 : decode cX7_judge 80 = .ok (.iload_n 2, 1) := by decide +kernel
theorem dX7_judge_81 : decode cX7_judge 81 = .ok (.iaload, 1) := by decide +kernel
theorem dX7_judge_82 : decode cX7_judge 82 = .ok (.ifCond .ne 7, 3) := by decide +kernel
theorem dX7_judge_85 : decode cX7_judge 85 = .ok (.iconst 2, 1) := by decide +kernel
theorem dX7_judge_86 : decode cX7_judge 86 = .ok (.goto 4, 3) := by decide +kernel
theorem dX7_judge_89 : decode cX7_judge 89 = .ok (.iconst 3, 1) := by decide +kernel
theorem dX7_judge_90 : decode cX7_judge 90 = .ok (.iastore, 1) := by decide +kernel
theorem dX7_judge_91 : decode cX7_judge 91 = .ok (.iinc 1 1, 3) := by decide +kernel
theorem dX7_judge_94 : decode cX7_judge 94 = .ok (.iinc 2 1, 3) := by decide +kernel
theorem dX7_judge_97 : decode cX7_judge 97 = .ok (.goto (-93), 3) := by decide +kernel
theorem dX7_judge_100 : decode cX7_judge 100 = .ok (.iconst 0, 1) := by decide +kernel
theorem dX7_judge_101 : decode cX7_judge 101 = .ok (.istore_n 2, 1) := by decide +kernel
theorem dX7_judge_102 : decode cX7_judge 102 = .ok (.iload_n 2, 1) := by decide +kernel
theorem dX7_judge_103 : decode cX7_judge 103 = .ok (.aload_n 0, 1) := by decide +kernel
theorem dX7_judge_104 : decode cX7_judge 104 = .ok (.getfield 89, 3) := by decide +kernel
theorem dX7_judge_107 : decode cX7_judge 107 = .ok (.if_icmp .ge 113, 3) := by decide +kernel
theorem dX7_judge_110 : decode cX7_judge 110 = .ok (.iconst 0, 1) := by decide +kernel
theorem dX7_judge_111 : decode cX7_judge 111 = .ok (.istore_n 3, 1) := by decide +kernel
theorem dX7_judge_112 : decode cX7_judge 112 = .ok (.iload_n 3, 1) := by decide +kernel
theorem dX7_judge_113 : decode cX7_judge 113 = .ok (.aload_n 0, 1) := by decide +kernel
theorem dX7_judge_114 : decode cX7_judge 114 = .ok (.getfield 92, 3) := by decide +kernel
theorem dX7_judge_117 : decode cX7_judge 117 = .ok (.if_icmp .ge 97, 3) := by decide +kernel
theorem dX7_judge_120 : decode cX7_judge 120 = .ok (.aload_n 0, 1) := by decide +kernel
theorem dX7_judge_121 : decode cX7_judge 121 = .ok (.iload_n 2, 1) := by decide +kernel
theorem dX7_judge_122 : decode cX7_judge 122 = .ok (.iload_n 3, 1) := by decide +kernel
theorem dX7_judge_123 : decode cX7_judge 123 = .ok (.invokevirtual 196, 3) := by decide +kernel
theorem dX7_judge_126 : decode cX7_judge 126 = .ok (.ifCond .eq 82, 3) := by decide +kernel
theorem dX7_judge_129 : decode cX7_judge 129 = .ok (.aload_n 0, 1) := by decide +kernel
theorem dX7_judge_130 : decode cX7_judge 130 = .ok (.aload_n 0, 1) := by decide +kernel
theorem dX7_judge_131 : decode cX7_judge 131 = .ok (.getfield 25, 3) := by decide +kernel
theorem dX7_judge_134 : decode cX7_judge 134 = .ok (.iload_n 2, 1) := by decide +kernel
theorem dX7_judge_135 : decode cX7_judge 135 = .ok (.iaload, 1) := by decide +kernel
theorem dX7_judge_136 : decode cX7_judge 136 = .ok (.iload_n 2, 1) := by decide +kernel
theorem dX7_judge_137 : decode cX7_judge 137 = .ok (.iload_n 3, 1) := by decide +kernel
theorem dX7_judge_138 : decode cX7_judge 138 = .ok (.invokevirtual 199, 3) := by decide +kernel
theorem dX7_judge_141 : decode cX7_judge 141 = .ok (.istore 4, 2) := by decide +kernel
theorem dX7_judge_143 : decode cX7_judge 143 = .ok (.iload 4, 2) := by decide +kernel
theorem dX7_judge_145 : decode cX7_judge 145 = .ok (.iconst (-1), 1) := by decide +kernel
theorem dX7_judge_146 : decode cX7_judge 146 = .ok (.if_icmp .ne 18, 3) := by decide +kernel
theorem dX7_judge_149 : decode cX7_judge 149 = .ok (.aload_n 0, 1) := by decide +kernel
theorem dX7_judge_150 : decode cX7_judge 150 = .ok (.aload_n 0, 1) := by decide +kernel
theorem dX7_judge_151 : decode cX7_judge 151 = .ok (.getfield 25, 3) := by decide +kernel
theorem dX7_judge_154 : decode cX7_judge 154 = .ok (.iload_n 2, 1) := by decide +kernel
theorem dX7_judge_155 : decode cX7_judge 155 = .ok (.iaload, 1) := by decide +kernel
theorem dX7_judge_156 : decode cX7_judge 156 = .ok (.iload_n 2, 1) := by decide +kernel
theorem dX7_judge_157 : decode cX7_judge 157 = .ok (.iload_n 3, 1) := by decide +kernel
theorem dX7_judge_158 : decode cX7_judge 158 = .ok (.invokevirtual 202, 3) := by decide +kernel
theorem dX7_judge_161 : decode cX7_judge 161 = .ok (.goto 47, 3) := by decide +kernel
theorem dX7_judge_164 : decode cX7_judge 164 = .ok (.aload_n 0, 1) := by decide +kernel
theorem dX7_judge_165 : decode cX7_judge 165 = .ok (.getfield 63, 3) := by decide +kernel
theorem dX7_judge_168 : decode cX7_judge 168 = .ok (.iload 4, 2) := by decide +kernel
theorem dX7_judge_170 : decode cX7_judge 170 = .ok (.aload_n 0, 1) := by decide +kernel
theorem dX7_judge_171 : decode cX7_judge 171 = .ok (.getfield 63, 3) := by decide +kernel
theorem dX7_judge_174 : decode cX7_judge 174 = .ok (.iload 4, 2) := by decide +kernel
theorem dX7_judge_176 : decode cX7_judge 176 = .ok (.iaload, 1) := by decide +kernel
theorem dX7_judge_177 : decode cX7_judge 177 = .ok (.iconst 2, 1) := by decide +kernel
theorem dX7_judge_178 : decode cX7_judge 178 = .ok (.if_icmp .ne 7, 3) := by decide +kernel
theorem dX7_judge_181 : decode cX7_judge 181 = .ok (.iconst 0, 1) := by decide +kernel
theorem dX7_judge_182 : decode cX7_judge 182 = .ok (.goto 25, 3) := by decide +kernel
theorem dX7_judge_185 : decode cX7_judge 185 = .ok (.aload_n 0, 1) := by decide +kernel
theorem dX7_judge_186 : decode cX7_judge 186 = .ok (.getfield 63, 3) := by decide +kernel
theorem dX7_judge_189 : decode cX7_judge 189 = .ok (.iload 4, 2) := by decide +kernel
theorem dX7_judge_191 : decode cX7_judge 191 = .ok (.iaload, 1) := by decide +kernel
theorem dX7_judge_192 : decode cX7_judge 192 = .ok (.iconst 3, 1) := by decide +kernel
theorem dX7_judge_193 : decode cX7_judge 193 = .ok (.if_icmp .ne 7, 3) := by decide +kernel
theorem dX7_judge_196 : decode cX7_judge 196 = .ok (.iconst 1, 1) := by decide +kernel
theorem dX7_judge_197 : decode cX7_judge 197 = .ok (.goto 10, 3) := by decide +kernel
theorem dX7_judge_200 : decode cX7_judge 200 = .ok (.aload_n 0, 1) := by decide +kernel
theorem dX7_judge_201 : decode cX7_judge 201 = .ok (.getfield 63, 3) := by decide +kernel
theorem dX7_judge_204 : decode cX7_judge 204 = .ok (.iload 4, 2) := by decide +kernel
theorem dX7_judge_206 : decode cX7_judge 206 = .ok (.iaload, 1) := by decide +kernel
theorem dX7_judge_207 : decode cX7_judge 207 = .ok (.iastore, 1) := by decide +kernel
theorem dX7_judge_208 : decode cX7_judge 208 = .ok (.iinc 3 1, 3) := by decide +kernel
theorem dX7_judge_211 : decode cX7_judge 211 = .ok (.goto (-99), 3) := by decide +kernel
theorem dX7_judge_214 : decode cX7_judge 214 = .ok (.iinc 2 1, 3) := by decide +kernel
theorem dX7_judge_217 : decode cX7_judge 217 = .ok (.goto (-115), 3) := by decide +kernel
theorem dX7_judge_220 : decode cX7_judge 220 = .ok (.iload_n 1, 1) := by decide +kernel
theorem dX7_judge_221 : decode cX7_judge 221 = .ok (.ireturn, 1) := by decide +kernel
theorem dX7_claims_0 : decode cX7_claims 0 = .ok (.aload_n 0, 1) := by decide +kernel
theorem dX7_claims_1 : decode cX7_claims 1 = .ok (.iconst 0, 1) := by decide +kernel
theorem dX7_claims_2 : decode cX7_claims 2 = .ok (.putfield 81, 3) := by decide +kernel
theorem dX7_claims_5 : decode cX7_claims 5 = .ok (.aload_n 0, 1) := by decide +kernel
theorem dX7_claims_6 : decode cX7_claims 6 = .ok (.getfield 95, 3) := by decide +kernel
theorem dX7_claims_9 : decode cX7_claims 9 = .ok (.ireturn, 1) := by decide +kernel
theorem dX7_state_0 : decode cX7_state 0 = .ok (.aload_n 0, 1) := by decide +kernel
theorem dX7_state_1 : decode cX7_state 1 = .ok (.aload_n 0, 1) := by decide +kernel
theorem dX7_state_2 : decode cX7_state 2 = .ok (.iload_n 1, 1) := by decide +kernel
theorem dX7_state_3 : decode cX7_state 3 = .ok (.invokevirtual 206, 3) := by decide +kernel
theorem dX7_state_6 : decode cX7_state 6 = .ok (.invokevirtual 130, 3) := by decide +kernel
theorem dX7_state_9 : decode cX7_state 9 = .ok (.ifCond .eq 12, 3) := by decide +kernel
theorem dX7_state_12 : decode cX7_state 12 = .ok (.aload_n 0, 1) := by decide +kernel
theorem dX7_state_13 : decode cX7_state 13 = .ok (.getfield 63, 3) := by decide +kernel
theorem dX7_state_16 : decode cX7_state 16 = .ok (.iload_n 1, 1) := by decide +kernel
theorem dX7_state_17 : decode cX7_state 17 = .ok (.iaload, 1) := by decide +kernel
theorem dX7_state_18 : decode cX7_state 18 = .ok (.goto 4, 3) := by decide +kernel
theorem dX7_state_21 : decode cX7_state 21 = .ok (.iconst 0, 1) := by decide +kernel
theorem dX7_state_22 : decode cX7_state 22 = .ok (.ireturn, 1) := by decide +kernel
theorem dX7_about_0 : decode cX7_about 0 = .ok (.aload_n 0, 1) := by decide +kernel
theorem dX7_about_1 : decode cX7_about 1 = .ok (.aload_n 0, 1) := by decide +kernel
theorem dX7_about_2 : decode cX7_about 2 = .ok (.iload_n 1, 1) := by decide +kernel
theorem dX7_about_3 : decode cX7_about 3 = .ok (.invokevirtual 206, 3) := by decide +kernel
theorem dX7_about_6 : decode cX7_about 6 = .ok (.invokevirtual 130, 3) := by decide +kernel
theorem dX7_about_9 : decode cX7_about 9 = .ok (.ifCond .eq 33, 3) := by decide +kernel
theorem dX7_about_12 : decode cX7_about 12 = .ok (.sipush 10000, 3) := by decide +kernel
theorem dX7_about_15 : decode cX7_about 15 = .ok (.aload_n 0, 1) := by decide +kernel
theorem dX7_about_16 : decode cX7_about 16 = .ok (.getfield 54, 3) := by decide +kernel
theorem dX7_about_19 : decode cX7_about 19 = .ok (.iload_n 1, 1) := by decide +kernel
theorem dX7_about_20 : decode cX7_about 20 = .ok (.iaload, 1) := by decide +kernel
theorem dX7_about_21 : decode cX7_about 21 = .ok (.imul, 1) := by decide +kernel
theorem dX7_about_22 : decode cX7_about 22 = .ok (.bipush 100, 2) := by decide +kernel
theorem dX7_about_24 : decode cX7_about 24 = .ok (.aload_n 0, 1) := by decide +kernel
theorem dX7_about_25 : decode cX7_about 25 = .ok (.getfield 57, 3) := by decide +kernel
theorem dX7_about_28 : decode cX7_about 28 = .ok (.iload_n 1, 1) := by decide +kernel
theorem dX7_about_29 : decode cX7_about 29 = .ok (.iaload, 1) := by decide +kernel
theorem dX7_about_30 : decode cX7_about 30 = .ok (.imul, 1) := by decide +kernel
theorem dX7_about_31 : decode cX7_about 31 = .ok (.iadd, 1) := by decide +kernel
theorem dX7_about_32 : decode cX7_about 32 = .ok (.aload_n 0, 1) := by decide +kernel
theorem dX7_about_33 : decode cX7_about 33 = .ok (.getfield 60, 3) := by decide +kernel
theorem dX7_about_36 : decode cX7_about 36 = .ok (.iload_n 1, 1) := by decide +kernel
theorem dX7_about_37 : decode cX7_about 37 = .ok (.iaload, 1) := by decide +kernel
theorem dX7_about_38 : decode cX7_about 38 = .ok (.iadd, 1) := by decide +kernel
theorem dX7_about_39 : decode cX7_about 39 = .ok (.goto 4, 3) := by decide +kernel
theorem dX7_about_42 : decode cX7_about 42 = .ok (.iconst 0, 1) := by decide +kernel
theorem dX7_about_43 : decode cX7_about 43 = .ok (.ireturn, 1) := by decide +kernel
theorem dX7_worthOf_0 : decode cX7_worthOf 0 = .ok (.aload_n 0, 1) := by decide +kernel
theorem dX7_worthOf_1 : decode cX7_worthOf 1 = .ok (.getfield 57, 3) := by decide +kernel
theorem dX7_worthOf_4 : decode cX7_worthOf 4 = .ok (.iload_n 1, 1) := by decide +kernel
theorem dX7_worthOf_5 : decode cX7_worthOf 5 = .ok (.iaload, 1) := by decide +kernel
theorem dX7_worthOf_6 : decode cX7_worthOf 6 = .ok (.istore_n 2, 1) := by decide +kernel
theorem dX7_worthOf_7 : decode cX7_worthOf 7 = .ok (.aload_n 0, 1) := by decide +kernel
theorem dX7_worthOf_8 : decode cX7_worthOf 8 = .ok (.getfield 31, 3) := by decide +kernel
theorem dX7_worthOf_11 : decode cX7_worthOf 11 = .ok (.iload_n 2, 1) := by decide +kernel
theorem dX7_worthOf_12 : decode cX7_worthOf 12 = .ok (.iaload, 1) := by decide +kernel
theorem dX7_worthOf_13 : decode cX7_worthOf 13 = .ok (.aload_n 0, 1) := by decide +kernel
theorem dX7_worthOf_14 : decode cX7_worthOf 14 = .ok (.getfield 28, 3) := by decide +kernel
theorem dX7_worthOf_17 : decode cX7_worthOf 17 = .ok (.iload_n 2, 1) := by decide +kernel
theorem dX7_worthOf_18 : decode cX7_worthOf 18 = .ok (.iaload, 1) := by decide +kernel
theorem dX7_worthOf_19 : decode cX7_worthOf 19 = .ok (.isub, 1) := by decide +kernel
theorem dX7_worthOf_20 : decode cX7_worthOf 20 = .ok (.aload_n 0, 1) := by decide +kernel
theorem dX7_worthOf_21 : decode cX7_worthOf 21 = .ok (.getfield 13, 3) := by decide +kernel
theorem dX7_worthOf_24 : decode cX7_worthOf 24 = .ok (.aload_n 0, 1) := by decide +kernel
theorem dX7_worthOf_25 : decode cX7_worthOf 25 = .ok (.getfield 54, 3) := by decide +kernel
theorem dX7_worthOf_28 : decode cX7_worthOf 28 = .ok (.iload_n 1, 1) := by decide +kernel
theorem dX7_worthOf_29 : decode cX7_worthOf 29 = .ok (.iaload, 1) := by decide +kernel
theorem dX7_worthOf_30 : decode cX7_worthOf 30 = .ok (.iaload, 1) := by decide +kernel
theorem dX7_worthOf_31 : decode cX7_worthOf 31 = .ok (.imul, 1) := by decide +kernel
theorem dX7_worthOf_32 : decode cX7_worthOf 32 = .ok (.aload_n 0, 1) := by decide +kernel
theorem dX7_worthOf_33 : decode cX7_worthOf 33 = .ok (.getfield 47, 3) := by decide +kernel
theorem dX7_worthOf_36 : decode cX7_worthOf 36 = .ok (.aload_n 0, 1) := by decide +kernel
theorem dX7_worthOf_37 : decode cX7_worthOf 37 = .ok (.getfield 60, 3) := by decide +kernel
theorem dX7_worthOf_40 : decode cX7_worthOf 40 = .ok (.iload_n 1, 1) := by decide +kernel
theorem dX7_worthOf_41 : decode cX7_worthOf 41 = .ok (.iaload, 1) := by decide +kernel
theorem dX7_worthOf_42 : decode cX7_worthOf 42 = .ok (.iaload, 1) := by decide +kernel
theorem dX7_worthOf_43 : decode cX7_worthOf 43 = .ok (.imul, 1) := by decide +kernel
theorem dX7_worthOf_44 : decode cX7_worthOf 44 = .ok (.bipush 100, 2) := by decide +kernel
theorem dX7_worthOf_46 : decode cX7_worthOf 46 = .ok (.idiv, 1) := by decide +kernel
theorem dX7_worthOf_47 : decode cX7_worthOf 47 = .ok (.ireturn, 1) := by decide +kernel
theorem dX7_worth_0 : decode cX7_worth 0 = .ok (.aload_n 0, 1) := by decide +kernel
theorem dX7_worth_1 : decode cX7_worth 1 = .ok (.aload_n 0, 1) := by decide +kernel
theorem dX7_worth_2 : decode cX7_worth 2 = .ok (.iload_n 1, 1) := by decide +kernel
theorem dX7_worth_3 : decode cX7_worth 3 = .ok (.invokevirtual 206, 3) := by decide +kernel
theorem dX7_worth_6 : decode cX7_worth 6 = .ok (.invokevirtual 130, 3) := by decide +kernel
theorem dX7_worth_9 : decode cX7_worth 9 = .ok (.ifCond .eq 11, 3) := by decide +kernel
theorem dX7_worth_12 : decode cX7_worth 12 = .ok (.aload_n 0, 1) := by decide +kernel
theorem dX7_worth_13 : decode cX7_worth 13 = .ok (.iload_n 1, 1) := by decide +kernel
theorem dX7_worth_14 : decode cX7_worth 14 = .ok (.invokevirtual 209, 3) := by decide +kernel
theorem dX7_worth_17 : decode cX7_worth 17 = .ok (.goto 4, 3) := by decide +kernel
theorem dX7_worth_20 : decode cX7_worth 20 = .ok (.iconst 0, 1) := by decide +kernel
theorem dX7_worth_21 : decode cX7_worth 21 = .ok (.ireturn, 1) := by decide +kernel
theorem dX7_pay_0 : decode cX7_pay 0 = .ok (.aload_n 0, 1) := by decide +kernel
theorem dX7_pay_1 : decode cX7_pay 1 = .ok (.iload_n 1, 1) := by decide +kernel
theorem dX7_pay_2 : decode cX7_pay 2 = .ok (.invokevirtual 206, 3) := by decide +kernel
theorem dX7_pay_5 : decode cX7_pay 5 = .ok (.istore_n 2, 1) := by decide +kernel
theorem dX7_pay_6 : decode cX7_pay 6 = .ok (.aload_n 0, 1) := by decide +kernel
theorem dX7_pay_7 : decode cX7_pay 7 = .ok (.iload_n 2, 1) := by decide +kernel
theorem dX7_pay_8 : decode cX7_pay 8 = .ok (.iload_n 2, 1) := by decide +kernel
theorem dX7_pay_9 : decode cX7_pay 9 = .ok (.ifCond .eq 16, 3) := by decide +kernel
theorem dX7_pay_12 : decode cX7_pay 12 = .ok (.aload_n 0, 1) := by decide +kernel
theorem dX7_pay_13 : decode cX7_pay 13 = .ok (.getfield 63, 3) := by decide +kernel
theorem dX7_pay_16 : decode cX7_pay 16 = .ok (.iload_n 1, 1) := by decide +kernel
theorem dX7_pay_17 : decode cX7_pay 17 = .ok (.iaload, 1) := by decide +kernel
theorem dX7_pay_18 : decode cX7_pay 18 = .ok (.ifCond .ne 7, 3) := by decide +kernel
theorem dX7_pay_21 : decode cX7_pay 21 = .ok (.iconst 1, 1) := by decide +kernel
theorem dX7_pay_22 : decode cX7_pay 22 = .ok (.goto 4, 3) := by decide +kernel
theorem dX7_pay_25 : decode cX7_pay 25 = .ok (.iconst 0, 1) := by decide +kernel
theorem dX7_pay_26 : decode cX7_pay 26 = .ok (.invokevirtual 104, 3) := by decide +kernel
theorem dX7_pay_29 : decode cX7_pay 29 = .ok (.ifCond .ne 5, 3) := by decide +kernel
theorem dX7_pay_32 : decode cX7_pay 32 = .ok (.iconst 0, 1) := by decide +kernel
theorem dX7_pay_33 : decode cX7_pay 33 = .ok (.ireturn, 1) := by decide +kernel
theorem dX7_pay_34 : decode cX7_pay 34 = .ok (.aload_n 0, 1) := by decide +kernel
theorem dX7_pay_35 : decode cX7_pay 35 = .ok (.getfield 63, 3) := by decide +kernel
theorem dX7_pay_38 : decode cX7_pay 38 = .ok (.iload_n 1, 1) := by decide +kernel
theorem dX7_pay_39 : decode cX7_pay 39 = .ok (.iconst 1, 1) := by decide +kernel
theorem dX7_pay_40 : decode cX7_pay 40 = .ok (.iastore, 1) := by decide +kernel
theorem dX7_pay_41 : decode cX7_pay 41 = .ok (.aload_n 0, 1) := by decide +kernel
theorem dX7_pay_42 : decode cX7_pay 42 = .ok (.getfield 66, 3) := by decide +kernel
theorem dX7_pay_45 : decode cX7_pay 45 = .ok (.iload_n 1, 1) := by decide +kernel
theorem dX7_pay_46 : decode cX7_pay 46 = .ok (.aload_n 0, 1) := by decide +kernel
theorem dX7_pay_47 : decode cX7_pay 47 = .ok (.iload_n 1, 1) := by decide +kernel
theorem dX7_pay_48 : decode cX7_pay 48 = .ok (.invokevirtual 209, 3) := by decide +kernel
theorem dX7_pay_51 : decode cX7_pay 51 = .ok (.iastore, 1) := by decide +kernel
theorem dX7_pay_52 : decode cX7_pay 52 = .ok (.aload_n 0, 1) := by decide +kernel
theorem dX7_pay_53 : decode cX7_pay 53 = .ok (.getfield 66, 3) := by decide +kernel
theorem dX7_pay_56 : decode cX7_pay 56 = .ok (.iload_n 1, 1) := by decide +kernel
theorem dX7_pay_57 : decode cX7_pay 57 = .ok (.iaload, 1) := by decide +kernel
theorem dX7_pay_58 : decode cX7_pay 58 = .ok (.ireturn, 1) := by decide +kernel
theorem dX7_takeBack_0 : decode cX7_takeBack 0 = .ok (.aload_n 0, 1) := by decide +kernel
theorem dX7_takeBack_1 : decode cX7_takeBack 1 = .ok (.iload_n 1, 1) := by decide +kernel
theorem dX7_takeBack_2 : decode cX7_takeBack 2 = .ok (.invokevirtual 206, 3) := by decide +kernel
theorem dX7_takeBack_5 : decode cX7_takeBack 5 = .ok (.istore_n 2, 1) := by decide +kernel
theorem dX7_takeBack_6 : decode cX7_takeBack 6 = .ok (.aload_n 0, 1) := by decide +kernel
theorem dX7_takeBack_7 : decode cX7_takeBack 7 = .ok (.iload_n 2, 1) := by decide +kernel
theorem dX7_takeBack_8 : decode cX7_takeBack 8 = .ok (.iload_n 2, 1) := by decide +kernel
theorem dX7_takeBack_9 : decode cX7_takeBack 9 = .ok (.ifCond .eq 17, 3) := by decide +kernel
theorem dX7_takeBack_12 : decode cX7_takeBack 12 = .ok (.aload_n 0, 1) := by decide +kernel
theorem dX7_takeBack_13 : decode cX7_takeBack 13 = .ok (.getfield 63, 3) := by decide +kernel
theorem dX7_takeBack_16 : decode cX7_takeBack 16 = .ok (.iload_n 1, 1) := by decide +kernel
theorem dX7_takeBack_17 : decode cX7_takeBack 17 = .ok (.iaload, 1) := by decide +kernel
theorem dX7_takeBack_18 : decode cX7_takeBack 18 = .ok (.iconst 3, 1) := by decide +kernel
theorem dX7_takeBack_19 : decode cX7_takeBack 19 = .ok (.if_icmp .ne 7, 3) := by decide +kernel
theorem dX7_takeBack_22 : decode cX7_takeBack 22 = .ok (.iconst 1, 1) := by decide +kernel
theorem dX7_takeBack_23 : decode cX7_takeBack 23 = .ok (.goto 4, 3) := by decide +kernel
theorem dX7_takeBack_26 : decode cX7_takeBack 26 = .ok (.iconst 0, 1) := by decide +kernel
theorem dX7_takeBack_27 : decode cX7_takeBack 27 = .ok (.invokevirtual 104, 3) := by decide +kernel
theorem dX7_takeBack_30 : decode cX7_takeBack 30 = .ok (.ifCond .ne 5, 3) := by decide +kernel
theorem dX7_takeBack_33 : decode cX7_takeBack 33 = .ok (.iconst 0, 1) := by decide +kernel
theorem dX7_takeBack_34 : decode cX7_takeBack 34 = .ok (.ireturn, 1) := by decide +kernel
theorem dX7_takeBack_35 : decode cX7_takeBack 35 = .ok (.aload_n 0, 1) := by decide +kernel
theorem dX7_takeBack_36 : decode cX7_takeBack 36 = .ok (.getfield 63, 3) := by decide +kernel
theorem dX7_takeBack_39 : decode cX7_takeBack 39 = .ok (.iload_n 1, 1) := by decide +kernel
theorem dX7_takeBack_40 : decode cX7_takeBack 40 = .ok (.iconst 2, 1) := by decide +kernel
theorem dX7_takeBack_41 : decode cX7_takeBack 41 = .ok (.iastore, 1) := by decide +kernel
theorem dX7_takeBack_42 : decode cX7_takeBack 42 = .ok (.aload_n 0, 1) := by decide +kernel
theorem dX7_takeBack_43 : decode cX7_takeBack 43 = .ok (.getfield 66, 3) := by decide +kernel
theorem dX7_takeBack_46 : decode cX7_takeBack 46 = .ok (.iload_n 1, 1) := by decide +kernel
theorem dX7_takeBack_47 : decode cX7_takeBack 47 = .ok (.iaload, 1) := by decide +kernel
theorem dX7_takeBack_48 : decode cX7_takeBack 48 = .ok (.ireturn, 1) := by decide +kernel
theorem dX7_wages_0 : decode cX7_wages 0 = .ok (.aload_n 0, 1) := by decide +kernel
theorem dX7_wages_1 : decode cX7_wages 1 = .ok (.iload_n 1, 1) := by decide +kernel
theorem dX7_wages_2 : decode cX7_wages 2 = .ok (.invokestatic 108, 3) := by decide +kernel
theorem dX7_wages_5 : decode cX7_wages 5 = .ok (.invokevirtual 130, 3) := by decide +kernel
theorem dX7_wages_8 : decode cX7_wages 8 = .ok (.ifCond .ne 5, 3) := by decide +kernel
theorem dX7_wages_11 : decode cX7_wages 11 = .ok (.iconst 0, 1) := by decide +kernel
theorem dX7_wages_12 : decode cX7_wages 12 = .ok (.ireturn, 1) := by decide +kernel
theorem dX7_wages_13 : decode cX7_wages 13 = .ok (.iconst 0, 1) := by decide +kernel
theorem dX7_wages_14 : decode cX7_wages 14 = .ok (.istore_n 2, 1) := by decide +kernel
theorem dX7_wages_15 : decode cX7_wages 15 = .ok (.iconst 0, 1) := by decide +kernel
theorem dX7_wages_16 : decode cX7_wages 16 = .ok (.istore_n 3, 1) := by decide +kernel
theorem dX7_wages_17 : decode cX7_wages 17 = .ok (.iload_n 3, 1) := by decide +kernel
theorem dX7_wages_18 : decode cX7_wages 18 = .ok (.aload_n 0, 1) := by decide +kernel
theorem dX7_wages_19 : decode cX7_wages 19 = .ok (.getfield 89, 3) := by decide +kernel
theorem dX7_wages_22 : decode cX7_wages 22 = .ok (.if_icmp .ge 52, 3) := by decide +kernel
theorem dX7_wages_25 : decode cX7_wages 25 = .ok (.iload_n 2, 1) := by decide +kernel
theorem dX7_wages_26 : decode cX7_wages 26 = .ok (.aload_n 0, 1) := by decide +kernel
theorem dX7_wages_27 : decode cX7_wages 27 = .ok (.getfield 25, 3) := by decide +kernel
theorem dX7_wages_30 : decode cX7_wages 30 = .ok (.iload_n 3, 1) := by decide +kernel
theorem dX7_wages_31 : decode cX7_wages 31 = .ok (.iaload, 1) := by decide +kernel
theorem dX7_wages_32 : decode cX7_wages 32 = .ok (.iload_n 1, 1) := by decide +kernel
theorem dX7_wages_33 : decode cX7_wages 33 = .ok (.if_icmp .ne 32, 3) := by decide +kernel
theorem dX7_wages_36 : decode cX7_wages 36 = .ok (.aload_n 0, 1) := by decide +kernel
theorem dX7_wages_37 : decode cX7_wages 37 = .ok (.getfield 31, 3) := by decide +kernel
theorem dX7_wages_40 : decode cX7_wages 40 = .ok (.iload_n 3, 1) := by decide +kernel
theorem dX7_wages_41 : decode cX7_wages 41 = .ok (.iaload, 1) := by decide +kernel
theorem dX7_wages_42 : decode cX7_wages 42 = .ok (.aload_n 0, 1) := by decide +kernel
theorem dX7_wages_43 : decode cX7_wages 43 = .ok (.getfield 101, 3) := by decide +kernel
theorem dX7_wages_46 : decode cX7_wages 46 = .ok (.if_icmp .gt 19, 3) := by decide +kernel
theorem dX7_wages_49 : decode cX7_wages 49 = .ok (.aload_n 0, 1) := by decide +kernel
theorem dX7_wages_50 : decode cX7_wages 50 = .ok (.getfield 31, 3) := by decide +kernel
theorem dX7_wages_53 : decode cX7_wages 53 = .ok (.iload_n 3, 1) := by decide +kernel
theorem dX7_wages_54 : decode cX7_wages 54 = .ok (.iaload, 1) := by decide +kernel
theorem dX7_wages_55 : decode cX7_wages 55 = .ok (.aload_n 0, 1) := by decide +kernel
theorem dX7_wages_56 : decode cX7_wages 56 = .ok (.getfield 28, 3) := by decide +kernel
theorem dX7_wages_59 : decode cX7_wages 59 = .ok (.iload_n 3, 1) := by decide +kernel
theorem dX7_wages_60 : decode cX7_wages 60 = .ok (.iaload, 1) := by decide +kernel
theorem dX7_wages_61 : decode cX7_wages 61 = .ok (.isub, 1) := by decide +kernel
theorem dX7_wages_62 : decode cX7_wages 62 = .ok (.goto 4, 3) := by decide +kernel
theorem dX7_wages_65 : decode cX7_wages 65 = .ok (.iconst 0, 1) := by decide +kernel
theorem dX7_wages_66 : decode cX7_wages 66 = .ok (.iadd, 1) := by decide +kernel
theorem dX7_wages_67 : decode cX7_wages 67 = .ok (.istore_n 2, 1) := by decide +kernel
theorem dX7_wages_68 : decode cX7_wages 68 = .ok (.iinc 3 1, 3) := by decide +kernel
theorem dX7_wages_71 : decode cX7_wages 71 = .ok (.goto (-54), 3) := by decide +kernel
theorem dX7_wages_74 : decode cX7_wages 74 = .ok (.iload_n 2, 1) := by decide +kernel
theorem dX7_wages_75 : decode cX7_wages 75 = .ok (.aload_n 0, 1) := by decide +kernel
theorem dX7_wages_76 : decode cX7_wages 76 = .ok (.getfield 13, 3) := by decide +kernel
theorem dX7_wages_79 : decode cX7_wages 79 = .ok (.iload_n 1, 1) := by decide +kernel
theorem dX7_wages_80 : decode cX7_wages 80 = .ok (.iaload, 1) := by decide +kernel
theorem dX7_wages_81 : decode cX7_wages 81 = .ok (.imul, 1) := by decide +kernel
theorem dX7_wages_82 : decode cX7_wages 82 = .ok (.istore_n 3, 1) := by decide +kernel
theorem dX7_wages_83 : decode cX7_wages 83 = .ok (.iconst 0, 1) := by decide +kernel
theorem dX7_wages_84 : decode cX7_wages 84 = .ok (.istore 4, 2) := by decide +kernel
theorem dX7_wages_86 : decode cX7_wages 86 = .ok (.iload 4, 2) := by decide +kernel
theorem dX7_wages_88 : decode cX7_wages 88 = .ok (.aload_n 0, 1) := by decide +kernel
theorem dX7_wages_89 : decode cX7_wages 89 = .ok (.getfield 95, 3) := by decide +kernel
theorem dX7_wages_92 : decode cX7_wages 92 = .ok (.if_icmp .ge 56, 3) := by decide +kernel
theorem dX7_wages_95 : decode cX7_wages 95 = .ok (.iload_n 3, 1) := by decide +kernel
theorem dX7_wages_96 : decode cX7_wages 96 = .ok (.aload_n 0, 1) := by decide +kernel
theorem dX7_wages_97 : decode cX7_wages 97 = .ok (.getfield 54, 3) := by decide +kernel
theorem dX7_wages_100 : decode cX7_wages 100 = .ok (.iload 4, 2) := by decide +kernel
theorem dX7_wages_102 : decode cX7_wages 102 = .ok (.iaload, 1) := by decide +kernel
theorem dX7_wages_103 : decode cX7_wages 103 = .ok (.iload_n 1, 1) := by decide +kernel
theorem dX7_wages_104 : decode cX7_wages 104 = .ok (.if_icmp .ne 35, 3) := by decide +kernel
theorem dX7_wages_107 : decode cX7_wages 107 = .ok (.aload_n 0, 1) := by decide +kernel
theorem dX7_wages_108 : decode cX7_wages 108 = .ok (.getfield 63, 3) := by decide +kernel
theorem dX7_wages_111 : decode cX7_wages 111 = .ok (.iload 4, 2) := by decide +kernel
theorem dX7_wages_113 : decode cX7_wages 113 = .ok (.iaload, 1) := by decide +kernel
theorem dX7_wages_114 : decode cX7_wages 114 = .ok (.iconst 1, 1) := by decide +kernel
theorem dX7_wages_115 : decode cX7_wages 115 = .ok (.if_icmp .eq 14, 3) := by decide +kernel
theorem dX7_wages_118 : decode cX7_wages 118 = .ok (.aload_n 0, 1) := by decide +kernel
theorem dX7_wages_119 : decode cX7_wages 119 = .ok (.getfield 63, 3) := by decide +kernel
theorem dX7_wages_122 : decode cX7_wages 122 = .ok (.iload 4, 2) := by decide +kernel
theorem dX7_wages_124 : decode cX7_wages 124 = .ok (.iaload, 1) := by decide +kernel
theorem dX7_wages_125 : decode cX7_wages 125 = .ok (.iconst 3, 1) := by decide +kernel
theorem dX7_wages_126 : decode cX7_wages 126 = .ok (.if_icmp .ne 13, 3) := by decide +kernel
theorem dX7_wages_129 : decode cX7_wages 129 = .ok (.aload_n 0, 1) := by decide +kernel
theorem dX7_wages_130 : decode cX7_wages 130 = .ok (.getfield 66, 3) := by decide +kernel
theorem dX7_wages_133 : decode cX7_wages 133 = .ok (.iload 4, 2) := by decide +kernel
theorem dX7_wages_135 : decode cX7_wages 135 = .ok (.iaload, 1) := by decide +kernel
theorem dX7_wages_136 : decode cX7_wages 136 = .ok (.goto 4, 3) := by decide +kernel
theorem dX7_wages_139 : decode cX7_wages 139 = .ok (.iconst 0, 1) := by decide +kernel
theorem dX7_wages_140 : decode cX7_wages 140 = .ok (.iadd, 1) := by decide +kernel
theorem dX7_wages_141 : decode cX7_wages 141 = .ok (.istore_n 3, 1) := by decide +kernel
theorem dX7_wages_142 : decode cX7_wages 142 = .ok (.iinc 4 1, 3) := by decide +kernel
theorem dX7_wages_145 : decode cX7_wages 145 = .ok (.goto (-59), 3) := by decide +kernel
theorem dX7_wages_148 : decode cX7_wages 148 = .ok (.iload_n 3, 1) := by decide +kernel
theorem dX7_wages_149 : decode cX7_wages 149 = .ok (.ireturn, 1) := by decide +kernel
theorem dX7_offer_0 : decode cX7_offer 0 = .ok (.aload_n 0, 1) := by decide +kernel
theorem dX7_offer_1 : decode cX7_offer 1 = .ok (.iload_n 1, 1) := by decide +kernel
theorem dX7_offer_2 : decode cX7_offer 2 = .ok (.invokevirtual 112, 3) := by decide +kernel
theorem dX7_offer_5 : decode cX7_offer 5 = .ok (.ifCond .eq 15, 3) := by decide +kernel
theorem dX7_offer_8 : decode cX7_offer 8 = .ok (.aload_n 0, 1) := by decide +kernel
theorem dX7_offer_9 : decode cX7_offer 9 = .ok (.iload_n 2, 1) := by decide +kernel
theorem dX7_offer_10 : decode cX7_offer 10 = .ok (.invokevirtual 112, 3) := by decide +kernel
theorem dX7_offer_13 : decode cX7_offer 13 = .ok (.ifCond .eq 7, 3) := by decide +kernel
theorem dX7_offer_16 : decode cX7_offer 16 = .ok (.iconst 1, 1) := by decide +kernel
theorem dX7_offer_17 : decode cX7_offer 17 = .ok (.goto 4, 3) := by decide +kernel
theorem dX7_offer_20 : decode cX7_offer 20 = .ok (.iconst 0, 1) := by decide +kernel
theorem dX7_offer_21 : decode cX7_offer 21 = .ok (.istore_n 3, 1) := by decide +kernel
theorem dX7_offer_22 : decode cX7_offer 22 = .ok (.iload_n 3, 1) := by decide +kernel
theorem dX7_offer_23 : decode cX7_offer 23 = .ok (.ifCond .eq 68, 3) := by decide +kernel
theorem dX7_offer_26 : decode cX7_offer 26 = .ok (.aload_n 0, 1) := by decide +kernel
theorem dX7_offer_27 : decode cX7_offer 27 = .ok (.getfield 25, 3) := by decide +kernel
theorem dX7_offer_30 : decode cX7_offer 30 = .ok (.iload_n 1, 1) := by decide +kernel
theorem dX7_offer_31 : decode cX7_offer 31 = .ok (.iaload, 1) := by decide +kernel
theorem dX7_offer_32 : decode cX7_offer 32 = .ok (.iconst (-1), 1) := by decide +kernel
theorem dX7_offer_33 : decode cX7_offer 33 = .ok (.if_icmp .eq 58, 3) := by decide +kernel
theorem dX7_offer_36 : decode cX7_offer 36 = .ok (.aload_n 0, 1) := by decide +kernel
theorem dX7_offer_37 : decode cX7_offer 37 = .ok (.getfield 25, 3) := by decide +kernel
theorem dX7_offer_40 : decode cX7_offer 40 = .ok (.iload_n 2, 1) := by decide +kernel
theorem dX7_offer_41 : decode cX7_offer 41 = .ok (.iaload, 1) := by decide +kernel
theorem dX7_offer_42 : decode cX7_offer 42 = .ok (.iconst (-1), 1) := by decide +kernel
theorem dX7_offer_43 : decode cX7_offer 43 = .ok (.if_icmp .eq 48, 3) := by decide +kernel
theorem dX7_offer_46 : decode cX7_offer 46 = .ok (.aload_n 0, 1) := by decide +kernel
theorem dX7_offer_47 : decode cX7_offer 47 = .ok (.getfield 25, 3) := by decide +kernel
theorem dX7_offer_50 : decode cX7_offer 50 = .ok (.iload_n 1, 1) := by decide +kernel
theorem dX7_offer_51 : decode cX7_offer 51 = .ok (.iaload, 1) := by decide +kernel
theorem dX7_offer_52 : decode cX7_offer 52 = .ok (.aload_n 0, 1) := by decide +kernel
theorem dX7_offer_53 : decode cX7_offer 53 = .ok (.getfield 25, 3) := by decide +kernel
theorem dX7_offer_56 : decode cX7_offer 56 = .ok (.iload_n 2, 1) := by decide +kernel
theorem dX7_offer_57 : decode cX7_offer 57 = .ok (.iaload, 1) := by decide +kernel
theorem dX7_offer_58 : decode cX7_offer 58 = .ok (.if_icmp .eq 33, 3) := by decide +kernel
theorem dX7_offer_61 : decode cX7_offer 61 = .ok (.aload_n 0, 1) := by decide +kernel
theorem dX7_offer_62 : decode cX7_offer 62 = .ok (.getfield 16, 3) := by decide +kernel
theorem dX7_offer_65 : decode cX7_offer 65 = .ok (.iload_n 1, 1) := by decide +kernel
theorem dX7_offer_66 : decode cX7_offer 66 = .ok (.iaload, 1) := by decide +kernel
theorem dX7_offer_67 : decode cX7_offer 67 = .ok (.aload_n 0, 1) := by decide +kernel
theorem dX7_offer_68 : decode cX7_offer 68 = .ok (.getfield 101, 3) := by decide +kernel
theorem dX7_offer_71 : decode cX7_offer 71 = .ok (.if_icmp .le 20, 3) := by decide +kernel
theorem dX7_offer_74 : decode cX7_offer 74 = .ok (.aload_n 0, 1) := by decide +kernel
theorem dX7_offer_75 : decode cX7_offer 75 = .ok (.getfield 16, 3) := by decide +kernel
theorem dX7_offer_78 : decode cX7_offer 78 = .ok (.iload_n 2, 1) := by decide +kernel
theorem dX7_offer_79 : decode cX7_offer 79 = .ok (.iaload, 1) := by decide +kernel
theorem dX7_offer_80 : decode cX7_offer 80 = .ok (.aload_n 0, 1) := by decide +kernel
theorem dX7_offer_81 : decode cX7_offer 81 = .ok (.getfield 101, 3) := by decide +kernel
theorem dX7_offer_84 : decode cX7_offer 84 = .ok (.if_icmp .le 7, 3) := by decide +kernel
theorem dX7_offer_87 : decode cX7_offer 87 = .ok (.iconst 1, 1) := by decide +kernel
theorem dX7_offer_88 : decode cX7_offer 88 = .ok (.goto 4, 3) := by decide +kernel
theorem dX7_offer_91 : decode cX7_offer 91 = .ok (.iconst 0, 1) := by decide +kernel
theorem dX7_offer_92 : decode cX7_offer 92 = .ok (.istore 4, 2) := by decide +kernel
theorem dX7_offer_94 : decode cX7_offer 94 = .ok (.aload_n 0, 1) := by decide +kernel
theorem dX7_offer_95 : decode cX7_offer 95 = .ok (.iload_n 3, 1) := by decide +kernel
theorem dX7_offer_96 : decode cX7_offer 96 = .ok (.iload 4, 2) := by decide +kernel
theorem dX7_offer_98 : decode cX7_offer 98 = .ok (.ifCond .eq 16, 3) := by decide +kernel
theorem dX7_offer_101 : decode cX7_offer 101 = .ok (.aload_n 0, 1) := by decide +kernel
theorem dX7_offer_102 : decode cX7_offer 102 = .ok (.getfield 98, 3) := by decide +kernel
theorem dX7_offer_105 : decode cX7_offer 105 = .ok (.bipush 40, 2) := by decide +kernel
theorem dX7_offer_107 : decode cX7_offer 107 = .ok (.if_icmp .ge 7, 3) := by decide +kernel
theorem dX7_offer_110 : decode cX7_offer 110 = .ok (.iconst 1, 1) := by decide +kernel
theorem dX7_offer_111 : decode cX7_offer 111 = .ok (.goto 4, 3) := by decide +kernel
theorem dX7_offer_114 : decode cX7_offer 114 = .ok (.iconst 0, 1) := by decide +kernel
theorem dX7_offer_115 : decode cX7_offer 115 = .ok (.invokevirtual 104, 3) := by decide +kernel
theorem dX7_offer_118 : decode cX7_offer 118 = .ok (.ifCond .ne 5, 3) := by decide +kernel
theorem dX7_offer_121 : decode cX7_offer 121 = .ok (.iconst 0, 1) := by decide +kernel
theorem dX7_offer_122 : decode cX7_offer 122 = .ok (.ireturn, 1) := by decide +kernel
theorem dX7_offer_123 : decode cX7_offer 123 = .ok (.aload_n 0, 1) := by decide +kernel
theorem dX7_offer_124 : decode cX7_offer 124 = .ok (.getfield 69, 3) := by decide +kernel
theorem dX7_offer_127 : decode cX7_offer 127 = .ok (.aload_n 0, 1) := by decide +kernel
theorem dX7_offer_128 : decode cX7_offer 128 = .ok (.getfield 98, 3) := by decide +kernel
theorem dX7_offer_131 : decode cX7_offer 131 = .ok (.iload_n 1, 1) := by decide +kernel
theorem dX7_offer_132 : decode cX7_offer 132 = .ok (.iastore, 1) := by decide +kernel
theorem dX7_offer_133 : decode cX7_offer 133 = .ok (.aload_n 0, 1) := by decide +kernel
theorem dX7_offer_134 : decode cX7_offer 134 = .ok (.getfield 72, 3) := by decide +kernel
theorem dX7_offer_137 : decode cX7_offer 137 = .ok (.aload_n 0, 1) := by decide +kernel
theorem dX7_offer_138 : decode cX7_offer 138 = .ok (.getfield 98, 3) := by decide +kernel
theorem dX7_offer_141 : decode cX7_offer 141 = .ok (.iload_n 2, 1) := by decide +kernel
theorem dX7_offer_142 : decode cX7_offer 142 = .ok (.iastore, 1) := by decide +kernel
theorem dX7_offer_143 : decode cX7_offer 143 = .ok (.aload_n 0, 1) := by decide +kernel
theorem dX7_offer_144 : decode cX7_offer 144 = .ok (.getfield 75, 3) := by decide +kernel
theorem dX7_offer_147 : decode cX7_offer 147 = .ok (.aload_n 0, 1) := by decide +kernel
theorem dX7_offer_148 : decode cX7_offer 148 = .ok (.getfield 98, 3) := by decide +kernel
theorem dX7_offer_151 : decode cX7_offer 151 = .ok (.iconst 1, 1) := by decide +kernel
theorem dX7_offer_152 : decode cX7_offer 152 = .ok (.bastore, 1) := by decide +kernel
theorem dX7_offer_153 : decode cX7_offer 153 = .ok (.aload_n 0, 1) := by decide +kernel
theorem dX7_offer_154 : decode cX7_offer 154 = .ok (.dup, 1) := by decide +kernel
theorem dX7_offer_155 : decode cX7_offer 155 = .ok (.getfield 98, 3) := by decide +kernel
theorem dX7_offer_158 : decode cX7_offer 158 = .ok (.iconst 1, 1) := by decide +kernel
theorem dX7_offer_159 : decode cX7_offer 159 = .ok (.iadd, 1) := by decide +kernel
theorem dX7_offer_160 : decode cX7_offer 160 = .ok (.putfield 98, 3) := by decide +kernel
theorem dX7_offer_163 : decode cX7_offer 163 = .ok (.aload_n 0, 1) := by decide +kernel
theorem dX7_offer_164 : decode cX7_offer 164 = .ok (.getfield 98, 3) := by decide +kernel
theorem dX7_offer_167 : decode cX7_offer 167 = .ok (.iconst 1, 1) := by decide +kernel
theorem dX7_offer_168 : decode cX7_offer 168 = .ok (.isub, 1) := by decide +kernel
theorem dX7_offer_169 : decode cX7_offer 169 = .ok (.ireturn, 1) := by decide +kernel
theorem dX7_countOffers_0 : decode cX7_countOffers 0 = .ok (.iconst 0, 1) := by decide +kernel
theorem dX7_countOffers_1 : decode cX7_countOffers 1 = .ok (.istore_n 1, 1) := by decide +kernel
theorem dX7_countOffers_2 : decode cX7_countOffers 2 = .ok (.iconst 0, 1) := by decide +kernel
theorem dX7_countOffers_3 : decode cX7_countOffers 3 = .ok (.istore_n 2, 1) := by decide +kernel
theorem dX7_countOffers_4 : decode cX7_countOffers 4 = .ok (.iload_n 2, 1) := by decide +kernel
theorem dX7_countOffers_5 : decode cX7_countOffers 5 = .ok (.aload_n 0, 1) := by decide +kernel
theorem dX7_countOffers_6 : decode cX7_countOffers 6 = .ok (.getfield 98, 3) := by decide +kernel
theorem dX7_countOffers_9 : decode cX7_countOffers 9 = .ok (.if_icmp .ge 26, 3) := by decide +kernel
theorem dX7_countOffers_12 : decode cX7_countOffers 12 = .ok (.iload_n 1, 1) := by decide +kernel
theorem dX7_countOffers_13 : decode cX7_countOffers 13 = .ok (.aload_n 0, 1) := by decide +kernel
theorem dX7_countOffers_14 : decode cX7_countOffers 14 = .ok (.getfield 75, 3) := by decide +kernel
theorem dX7_countOffers_17 : decode cX7_countOffers 17 = .ok (.iload_n 2, 1) := by decide +kernel
theorem dX7_countOffers_18 : decode cX7_countOffers 18 = .ok (.baload, 1) := by decide +kernel
theorem dX7_countOffers_19 : decode cX7_countOffers 19 = .ok (.ifCond .eq 7, 3) := by decide +kernel
theorem dX7_countOffers_22 : decode cX7_countOffers 22 = .ok (.iconst 1, 1) := by decide +kernel
theorem dX7_countOffers_23 : decode cX7_countOffers 23 = .ok (.goto 4, 3) := by decide +kernel
theorem dX7_countOffers_26 : decode cX7_countOffers 26 = .ok (.iconst 0, 1) := by decide +kernel
theorem dX7_countOffers_27 : decode cX7_countOffers 27 = .ok (.iadd, 1) := by decide +kernel
theorem dX7_countOffers_28 : decode cX7_countOffers 28 = .ok (.istore_n 1, 1) := by decide +kernel
theorem dX7_countOffers_29 : decode cX7_countOffers 29 = .ok (.iinc 2 1, 3) := by decide +kernel
theorem dX7_countOffers_32 : decode cX7_countOffers 32 = .ok (.goto (-28), 3) := by decide +kernel
theorem dX7_countOffers_35 : decode cX7_countOffers 35 = .ok (.iload_n 1, 1) := by decide +kernel
theorem dX7_countOffers_36 : decode cX7_countOffers 36 = .ok (.ireturn, 1) := by decide +kernel
theorem dX7_withdraw_0 : decode cX7_withdraw 0 = .ok (.aload_n 0, 1) := by decide +kernel
theorem dX7_withdraw_1 : decode cX7_withdraw 1 = .ok (.iload_n 1, 1) := by decide +kernel
theorem dX7_withdraw_2 : decode cX7_withdraw 2 = .ok (.invokevirtual 212, 3) := by decide +kernel
theorem dX7_withdraw_5 : decode cX7_withdraw 5 = .ok (.istore_n 2, 1) := by decide +kernel
theorem dX7_withdraw_6 : decode cX7_withdraw 6 = .ok (.aload_n 0, 1) := by decide +kernel
theorem dX7_withdraw_7 : decode cX7_withdraw 7 = .ok (.iload_n 2, 1) := by decide +kernel
theorem dX7_withdraw_8 : decode cX7_withdraw 8 = .ok (.iload_n 2, 1) := by decide +kernel
theorem dX7_withdraw_9 : decode cX7_withdraw 9 = .ok (.ifCond .eq 16, 3) := by decide +kernel
theorem dX7_withdraw_12 : decode cX7_withdraw 12 = .ok (.aload_n 0, 1) := by decide +kernel
theorem dX7_withdraw_13 : decode cX7_withdraw 13 = .ok (.getfield 75, 3) := by decide +kernel
theorem dX7_withdraw_16 : decode cX7_withdraw 16 = .ok (.iload_n 1, 1) := by decide +kernel
theorem dX7_withdraw_17 : decode cX7_withdraw 17 = .ok (.baload, 1) := by decide +kernel
theorem dX7_withdraw_18 : decode cX7_withdraw 18 = .ok (.ifCond .eq 7, 3) := by decide +kernel
theorem dX7_withdraw_21 : decode cX7_withdraw 21 = .ok (.iconst 1, 1) := by decide +kernel
theorem dX7_withdraw_22 : decode cX7_withdraw 22 = .ok (.goto 4, 3) := by decide +kernel
theorem dX7_withdraw_25 : decode cX7_withdraw 25 = .ok (.iconst 0, 1) := by decide +kernel
theorem dX7_withdraw_26 : decode cX7_withdraw 26 = .ok (.invokevirtual 104, 3) := by decide +kernel
theorem dX7_withdraw_29 : decode cX7_withdraw 29 = .ok (.ifCond .ne 5, 3) := by decide +kernel
theorem dX7_withdraw_32 : decode cX7_withdraw 32 = .ok (.iconst 0, 1) := by decide +kernel
theorem dX7_withdraw_33 : decode cX7_withdraw 33 = .ok (.ireturn, 1) := by decide +kernel
theorem dX7_withdraw_34 : decode cX7_withdraw 34 = .ok (.aload_n 0, 1) := by decide +kernel
theorem dX7_withdraw_35 : decode cX7_withdraw 35 = .ok (.getfield 75, 3) := by decide +kernel
theorem dX7_withdraw_38 : decode cX7_withdraw 38 = .ok (.iload_n 1, 1) := by decide +kernel
theorem dX7_withdraw_39 : decode cX7_withdraw 39 = .ok (.iconst 0, 1) := by decide +kernel
theorem dX7_withdraw_40 : decode cX7_withdraw 40 = .ok (.bastore, 1) := by decide +kernel
theorem dX7_withdraw_41 : decode cX7_withdraw 41 = .ok (.aload_n 0, 1) := by decide +kernel
theorem dX7_withdraw_42 : decode cX7_withdraw 42 = .ok (.invokevirtual 215, 3) := by decide +kernel
theorem dX7_withdraw_45 : decode cX7_withdraw 45 = .ok (.ireturn, 1) := by decide +kernel
theorem dX7_offers_0 : decode cX7_offers 0 = .ok (.aload_n 0, 1) := by decide +kernel
theorem dX7_offers_1 : decode cX7_offers 1 = .ok (.iconst 0, 1) := by decide +kernel
theorem dX7_offers_2 : decode cX7_offers 2 = .ok (.putfield 81, 3) := by decide +kernel
theorem dX7_offers_5 : decode cX7_offers 5 = .ok (.aload_n 0, 1) := by decide +kernel
theorem dX7_offers_6 : decode cX7_offers 6 = .ok (.invokevirtual 215, 3) := by decide +kernel
theorem dX7_offers_9 : decode cX7_offers 9 = .ok (.ireturn, 1) := by decide +kernel
theorem dX7_giver_0 : decode cX7_giver 0 = .ok (.iconst 0, 1) := by decide +kernel
theorem dX7_giver_1 : decode cX7_giver 1 = .ok (.istore_n 2, 1) := by decide +kernel
theorem dX7_giver_2 : decode cX7_giver 2 = .ok (.iload_n 2, 1) := by decide +kernel
theorem dX7_giver_3 : decode cX7_giver 3 = .ok (.aload_n 0, 1) := by decide +kernel
theorem dX7_giver_4 : decode cX7_giver 4 = .ok (.getfield 98, 3) := by decide +kernel
theorem dX7_giver_7 : decode cX7_giver 7 = .ok (.if_icmp .ge 30, 3) := by decide +kernel
theorem dX7_giver_10 : decode cX7_giver 10 = .ok (.aload_n 0, 1) := by decide +kernel
theorem dX7_giver_11 : decode cX7_giver 11 = .ok (.getfield 75, 3) := by decide +kernel
theorem dX7_giver_14 : decode cX7_giver 14 = .ok (.iload_n 2, 1) := by decide +kernel
theorem dX7_giver_15 : decode cX7_giver 15 = .ok (.baload, 1) := by decide +kernel
theorem dX7_giver_16 : decode cX7_giver 16 = .ok (.ifCond .eq 15, 3) := by decide +kernel
theorem dX7_giver_19 : decode cX7_giver 19 = .ok (.aload_n 0, 1) := by decide +kernel
theorem dX7_giver_20 : decode cX7_giver 20 = .ok (.getfield 69, 3) := by decide +kernel
theorem dX7_giver_23 : decode cX7_giver 23 = .ok (.iload_n 2, 1) := by decide +kernel
theorem dX7_giver_24 : decode cX7_giver 24 = .ok (.iaload, 1) := by decide +kernel
theorem dX7_giver_25 : decode cX7_giver 25 = .ok (.iload_n 1, 1) := by decide +kernel
theorem dX7_giver_26 : decode cX7_giver 26 = .ok (.if_icmp .ne 5, 3) := by decide +kernel
theorem dX7_giver_29 : decode cX7_giver 29 = .ok (.iload_n 2, 1) := by decide +kernel
theorem dX7_giver_30 : decode cX7_giver 30 = .ok (.ireturn, 1) := by decide +kernel
theorem dX7_giver_31 : decode cX7_giver 31 = .ok (.iinc 2 1, 3) := by decide +kernel
theorem dX7_giver_34 : decode cX7_giver 34 = .ok (.goto (-32), 3) := by decide +kernel
theorem dX7_giver_37 : decode cX7_giver 37 = .ok (.iconst (-1), 1) := by decide +kernel
theorem dX7_giver_38 : decode cX7_giver 38 = .ok (.ireturn, 1) := by decide +kernel
theorem dX7_isInRing_0 : decode cX7_isInRing 0 = .ok (.iconst 0, 1) := by decide +kernel
theorem dX7_isInRing_1 : decode cX7_isInRing 1 = .ok (.istore_n 2, 1) := by decide +kernel
theorem dX7_isInRing_2 : decode cX7_isInRing 2 = .ok (.iconst 0, 1) := by decide +kernel
theorem dX7_isInRing_3 : decode cX7_isInRing 3 = .ok (.istore_n 3, 1) := by decide +kernel
theorem dX7_isInRing_4 : decode cX7_isInRing 4 = .ok (.iload_n 3, 1) := by decide +kernel
theorem dX7_isInRing_5 : decode cX7_isInRing 5 = .ok (.aload_n 0, 1) := by decide +kernel
theorem dX7_isInRing_6 : decode cX7_isInRing 6 = .ok (.getfield 218, 3) := by decide +kernel
theorem dX7_isInRing_9 : decode cX7_isInRing 9 = .ok (.if_icmp .ge 39, 3) := by decide +kernel
theorem dX7_isInRing_12 : decode cX7_isInRing 12 = .ok (.iload_n 2, 1) := by decide +kernel
theorem dX7_isInRing_13 : decode cX7_isInRing 13 = .ok (.ifCond .ne 23, 3) := by decide +kernel
theorem dX7_isInRing_16 : decode cX7_isInRing 16 = .ok (.aload_n 0, 1) := by decide +kernel
theorem dX7_isInRing_17 : decode cX7_isInRing 17 = .ok (.getfield 25, 3) := by decide +kernel
theorem dX7_isInRing_20 : decode cX7_isInRing 20 = .ok (.aload_n 0, 1) := by decide +kernel
theorem dX7_isInRing_21 : decode cX7_isInRing 21 = .ok (.getfield 69, 3) := by decide +kernel
theorem dX7_isInRing_24 : decode cX7_isInRing 24 = .ok (.aload_n 0, 1) := by decide +kernel
theorem dX7_isInRing_25 : decode cX7_isInRing 25 = .ok (.getfield 78, 3) := by decide +kernel
theorem dX7_isInRing_28 : decode cX7_isInRing 28 = .ok (.iload_n 3, 1) := by decide +kernel
theorem dX7_isInRing_29 : decode cX7_isInRing 29 = .ok (.iaload, 1) := by decide +kernel
theorem dX7_isInRing_30 : decode cX7_isInRing 30 = .ok (.iaload, 1) := by decide +kernel
theorem dX7_isInRing_31 : decode cX7_isInRing 31 = .ok (.iaload, 1) := by decide +kernel
theorem dX7_isInRing_32 : decode cX7_isInRing 32 = .ok (.iload_n 1, 1) := by decide +kernel
theorem dX7_isInRing_33 : decode cX7_isInRing 33 = .ok (.if_icmp .ne 7, 3) := by decide +kernel
theorem dX7_isInRing_36 : decode cX7_isInRing 36 = .ok (.iconst 1, 1) := by decide +kernel
theorem dX7_isInRing_37 : decode cX7_isInRing 37 = .ok (.goto 4, 3) := by decide +kernel
theorem dX7_isInRing_40 : decode cX7_isInRing 40 = .ok (.iconst 0, 1) := by decide +kernel
theorem dX7_isInRing_41 : decode cX7_isInRing 41 = .ok (.istore_n 2, 1) := by decide +kernel
theorem dX7_isInRing_42 : decode cX7_isInRing 42 = .ok (.iinc 3 1, 3) := by decide +kernel
theorem dX7_isInRing_45 : decode cX7_isInRing 45 = .ok (.goto (-41), 3) := by decide +kernel
theorem dX7_isInRing_48 : decode cX7_isInRing 48 = .ok (.iload_n 2, 1) := by decide +kernel
theorem dX7_isInRing_49 : decode cX7_isInRing 49 = .ok (.ireturn, 1) := by decide +kernel
theorem dX7_find_0 : decode cX7_find 0 = .ok (.aload_n 0, 1) := by decide +kernel
theorem dX7_find_1 : decode cX7_find 1 = .ok (.iconst 0, 1) := by decide +kernel
theorem dX7_find_2 : decode cX7_find 2 = .ok (.putfield 218, 3) := by decide +kernel
theorem dX7_find_5 : decode cX7_find 5 = .ok (.aload_n 0, 1) := by decide +kernel
theorem dX7_find_6 : decode cX7_find 6 = .ok (.getfield 75, 3) := by decide +kernel
theorem dX7_find_9 : decode cX7_find 9 = .ok (.iload_n 1, 1) := by decide +kernel
theorem dX7_find_10 : decode cX7_find 10 = .ok (.baload, 1) := by decide +kernel
theorem dX7_find_11 : decode cX7_find 11 = .ok (.ifCond .eq 7, 3) := by decide +kernel
theorem dX7_find_14 : decode cX7_find 14 = .ok (.iload_n 1, 1) := by decide +kernel
theorem dX7_find_15 : decode cX7_find 15 = .ok (.goto 4, 3) := by decide +kernel
theorem dX7_find_18 : decode cX7_find 18 = .ok (.iconst (-1), 1) := by decide +kernel
theorem dX7_find_19 : decode cX7_find 19 = .ok (.istore_n 2, 1) := by decide +kernel
theorem dX7_find_20 : decode cX7_find 20 = .ok (.iload_n 2, 1) := by decide +kernel
theorem dX7_find_21 : decode cX7_find 21 = .ok (.iconst (-1), 1) := by decide +kernel
theorem dX7_find_22 : decode cX7_find 22 = .ok (.if_icmp .eq 84, 3) := by decide +kernel
theorem dX7_find_25 : decode cX7_find 25 = .ok (.aload_n 0, 1) := by decide +kernel
theorem dX7_find_26 : decode cX7_find 26 = .ok (.getfield 218, 3) := by decide +kernel
theorem dX7_find_29 : decode cX7_find 29 = .ok (.bipush 8, 2) := by decide +kernel
theorem dX7_find_31 : decode cX7_find 31 = .ok (.if_icmp .ge 75, 3) := by decide +kernel
theorem dX7_find_34 : decode cX7_find 34 = .ok (.aload_n 0, 1) := by decide +kernel
theorem dX7_find_35 : decode cX7_find 35 = .ok (.aload_n 0, 1) := by decide +kernel
theorem dX7_find_36 : decode cX7_find 36 = .ok (.getfield 25, 3) := by decide +kernel
theorem dX7_find_39 : decode cX7_find 39 = .ok (.aload_n 0, 1) := by decide +kernel
theorem dX7_find_40 : decode cX7_find 40 = .ok (.getfield 69, 3) := by decide +kernel
theorem dX7_find_43 : decode cX7_find 43 = .ok (.iload_n 2, 1) := by decide +kernel
theorem dX7_find_44 : decode cX7_find 44 = .ok (.iaload, 1) := by decide +kernel
theorem dX7_find_45 : decode cX7_find 45 = .ok (.iaload, 1) := by decide +kernel
theorem dX7_find_46 : decode cX7_find 46 = .ok (.invokevirtual 221, 3) := by decide +kernel
theorem dX7_find_49 : decode cX7_find 49 = .ok (.ifCond .ne 57, 3) := by decide +kernel
theorem dX7_find_52 : decode cX7_find 52 = .ok (.aload_n 0, 1) := by decide +kernel
theorem dX7_find_53 : decode cX7_find 53 = .ok (.getfield 78, 3) := by decide +kernel
theorem dX7_find_56 : decode cX7_find 56 = .ok (.aload_n 0, 1) := by decide +kernel
theorem dX7_find_57 : decode cX7_find 57 = .ok (.getfield 218, 3) := by decide +kernel
theorem dX7_find_60 : decode cX7_find 60 = .ok (.iload_n 2, 1) := by decide +kernel
theorem dX7_find_61 : decode cX7_find 61 = .ok (.iastore, 1) := by decide +kernel
theorem dX7_find_62 : decode cX7_find 62 = .ok (.aload_n 0, 1) := by decide +kernel
theorem dX7_find_63 : decode cX7_find 63 = .ok (.dup, 1) := by decide +kernel
theorem dX7_find_64 : decode cX7_find 64 = .ok (.getfield 218, 3) := by decide +kernel
theorem dX7_find_67 : decode cX7_find 67 = .ok (.iconst 1, 1) := by decide +kernel
theorem dX7_find_68 : decode cX7_find 68 = .ok (.iadd, 1) := by decide +kernel
theorem dX7_find_69 : decode cX7_find 69 = .ok (.putfield 218, 3) := by decide +kernel
theorem dX7_find_72 : decode cX7_find 72 = .ok (.aload_n 0, 1) := by decide +kernel
theorem dX7_find_73 : decode cX7_find 73 = .ok (.getfield 72, 3) := by decide +kernel
theorem dX7_find_76 : decode cX7_find 76 = .ok (.iload_n 2, 1) := by decide +kernel
theorem dX7_find_77 : decode cX7_find 77 = .ok (.iaload, 1) := by decide +kernel
theorem dX7_find_78 : decode cX7_find 78 = .ok (.aload_n 0, 1) := by decide +kernel
theorem dX7_find_79 : decode cX7_find 79 = .ok (.getfield 69, 3) := by decide +kernel
theorem dX7_find_82 : decode cX7_find 82 = .ok (.iload_n 1, 1) := by decide +kernel
theorem dX7_find_83 : decode cX7_find 83 = .ok (.iaload, 1) := by decide +kernel
theorem dX7_find_84 : decode cX7_find 84 = .ok (.if_icmp .ne 8, 3) := by decide +kernel
theorem dX7_find_87 : decode cX7_find 87 = .ok (.aload_n 0, 1) := by decide +kernel
theorem dX7_find_88 : decode cX7_find 88 = .ok (.getfield 218, 3) := by decide +kernel
theorem dX7_find_91 : decode cX7_find 91 = .ok (.ireturn, 1) := by decide +kernel
theorem dX7_find_92 : decode cX7_find 92 = .ok (.aload_n 0, 1) := by decide +kernel
theorem dX7_find_93 : decode cX7_find 93 = .ok (.aload_n 0, 1) := by decide +kernel
theorem dX7_find_94 : decode cX7_find 94 = .ok (.getfield 72, 3) := by decide +kernel
theorem dX7_find_97 : decode cX7_find 97 = .ok (.iload_n 2, 1) := by decide +kernel
theorem dX7_find_98 : decode cX7_find 98 = .ok (.iaload, 1) := by decide +kernel
theorem dX7_find_99 : decode cX7_find 99 = .ok (.invokevirtual 224, 3) := by decide +kernel
theorem dX7_find_102 : decode cX7_find 102 = .ok (.istore_n 2, 1) := by decide +kernel
theorem dX7_find_103 : decode cX7_find 103 = .ok (.goto (-83), 3) := by decide +kernel
theorem dX7_find_106 : decode cX7_find 106 = .ok (.iconst 0, 1) := by decide +kernel
theorem dX7_find_107 : decode cX7_find 107 = .ok (.ireturn, 1) := by decide +kernel
theorem dX7_ring_0 : decode cX7_ring 0 = .ok (.aload_n 0, 1) := by decide +kernel
theorem dX7_ring_1 : decode cX7_ring 1 = .ok (.aload_n 0, 1) := by decide +kernel
theorem dX7_ring_2 : decode cX7_ring 2 = .ok (.iload_n 1, 1) := by decide +kernel
theorem dX7_ring_3 : decode cX7_ring 3 = .ok (.invokevirtual 212, 3) := by decide +kernel
theorem dX7_ring_6 : decode cX7_ring 6 = .ok (.invokevirtual 130, 3) := by decide +kernel
theorem dX7_ring_9 : decode cX7_ring 9 = .ok (.ifCond .eq 11, 3) := by decide +kernel
theorem dX7_ring_12 : decode cX7_ring 12 = .ok (.aload_n 0, 1) := by decide +kernel
theorem dX7_ring_13 : decode cX7_ring 13 = .ok (.iload_n 1, 1) := by decide +kernel
theorem dX7_ring_14 : decode cX7_ring 14 = .ok (.invokevirtual 227, 3) := by decide +kernel
theorem dX7_ring_17 : decode cX7_ring 17 = .ok (.goto 4, 3) := by decide +kernel
theorem dX7_ring_20 : decode cX7_ring 20 = .ok (.iconst 0, 1) := by decide +kernel
theorem dX7_ring_21 : decode cX7_ring 21 = .ok (.ireturn, 1) := by decide +kernel
theorem dX7_canSwap_0 : decode cX7_canSwap 0 = .ok (.iload_n 1, 1) := by decide +kernel
theorem dX7_canSwap_1 : decode cX7_canSwap 1 = .ok (.ifCond .le 7, 3) := by decide +kernel
theorem dX7_canSwap_4 : decode cX7_canSwap 4 = .ok (.iconst 1, 1) := by decide +kernel
theorem dX7_canSwap_5 : decode cX7_canSwap 5 = .ok (.goto 4, 3) := by decide +kernel
theorem dX7_canSwap_8 : decode cX7_canSwap 8 = .ok (.iconst 0, 1) := by decide +kernel
theorem dX7_canSwap_9 : decode cX7_canSwap 9 = .ok (.istore_n 2, 1) := by decide +kernel
theorem dX7_canSwap_10 : decode cX7_canSwap 10 = .ok (.iconst 0, 1) := by decide +kernel
theorem dX7_canSwap_11 : decode cX7_canSwap 11 = .ok (.istore_n 3, 1) := by decide +kernel
theorem dX7_canSwap_12 : decode cX7_canSwap 12 = .ok (.iload_n 3, 1) := by decide +kernel
theorem dX7_canSwap_13 : decode cX7_canSwap 13 = .ok (.iload_n 1, 1) := by decide +kernel
theorem dX7_canSwap_14 : decode cX7_canSwap 14 = .ok (.if_icmp .ge 77, 3) := by decide +kernel
theorem dX7_canSwap_17 : decode cX7_canSwap 17 = .ok (.aload_n 0, 1) := by decide +kernel
theorem dX7_canSwap_18 : decode cX7_canSwap 18 = .ok (.getfield 69, 3) := by decide +kernel
theorem dX7_canSwap_21 : decode cX7_canSwap 21 = .ok (.aload_n 0, 1) := by decide +kernel
theorem dX7_canSwap_22 : decode cX7_canSwap 22 = .ok (.getfield 78, 3) := by decide +kernel
theorem dX7_canSwap_25 : decode cX7_canSwap 25 = .ok (.iload_n 3, 1) := by decide +kernel
theorem dX7_canSwap_26 : decode cX7_canSwap 26 = .ok (.iaload, 1) := by decide +kernel
theorem dX7_canSwap_27 : decode cX7_canSwap 27 = .ok (.iaload, 1) := by decide +kernel
theorem dX7_canSwap_28 : decode cX7_canSwap 28 = .ok (.istore 4, 2) := by decide +kernel
theorem dX7_canSwap_30 : decode cX7_canSwap 30 = .ok (.aload_n 0, 1) := by decide +kernel
theorem dX7_canSwap_31 : decode cX7_canSwap 31 = .ok (.getfield 72, 3) := by decide +kernel
theorem dX7_canSwap_34 : decode cX7_canSwap 34 = .ok (.aload_n 0, 1) := by decide +kernel
theorem dX7_canSwap_35 : decode cX7_canSwap 35 = .ok (.getfield 78, 3) := by decide +kernel
theorem dX7_canSwap_38 : decode cX7_canSwap 38 = .ok (.iload_n 3, 1) := by decide +kernel
theorem dX7_canSwap_39 : decode cX7_canSwap 39 = .ok (.iaload, 1) := by decide +kernel
theorem dX7_canSwap_40 : decode cX7_canSwap 40 = .ok (.iaload, 1) := by decide +kernel
theorem dX7_canSwap_41 : decode cX7_canSwap 41 = .ok (.istore 5, 2) := by decide +kernel
theorem dX7_canSwap_43 : decode cX7_canSwap 43 = .ok (.iload_n 2, 1) := by decide +kernel
theorem dX7_canSwap_44 : decode cX7_canSwap 44 = .ok (.ifCond .eq 39, 3) := by decide +kernel
theorem dX7_canSwap_47 : decode cX7_canSwap 47 = .ok (.aload_n 0, 1) := by decide +kernel
theorem dX7_canSwap_48 : decode cX7_canSwap 48 = .ok (.getfield 16, 3) := by decide +kernel
theorem dX7_canSwap_51 : decode cX7_canSwap 51 = .ok (.iload 4, 2) := by decide +kernel
theorem dX7_canSwap_53 : decode cX7_canSwap 53 = .ok (.iaload, 1) := by decide +kernel
theorem dX7_canSwap_54 : decode cX7_canSwap 54 = .ok (.aload_n 0, 1) := by decide +kernel
theorem dX7_canSwap_55 : decode cX7_canSwap 55 = .ok (.getfield 101, 3) := by decide +kernel
theorem dX7_canSwap_58 : decode cX7_canSwap 58 = .ok (.if_icmp .le 25, 3) := by decide +kernel
theorem dX7_canSwap_61 : decode cX7_canSwap 61 = .ok (.aload_n 0, 1) := by decide +kernel
theorem dX7_canSwap_62 : decode cX7_canSwap 62 = .ok (.aload_n 0, 1) := by decide +kernel
theorem dX7_canSwap_63 : decode cX7_canSwap 63 = .ok (.getfield 25, 3) := by decide +kernel
theorem dX7_canSwap_66 : decode cX7_canSwap 66 = .ok (.iload 4, 2) := by decide +kernel
theorem dX7_canSwap_68 : decode cX7_canSwap 68 = .ok (.iaload, 1) := by decide +kernel
theorem dX7_canSwap_69 : decode cX7_canSwap 69 = .ok (.iload 5, 2) := by decide +kernel
theorem dX7_canSwap_71 : decode cX7_canSwap 71 = .ok (.iload 4, 2) := by decide +kernel
theorem dX7_canSwap_73 : decode cX7_canSwap 73 = .ok (.invokevirtual 115, 3) := by decide +kernel
theorem dX7_canSwap_76 : decode cX7_canSwap 76 = .ok (.ifCond .eq 7, 3) := by decide +kernel
theorem dX7_canSwap_79 : decode cX7_canSwap 79 = .ok (.iconst 1, 1) := by decide +kernel
theorem dX7_canSwap_80 : decode cX7_canSwap 80 = .ok (.goto 4, 3) := by decide +kernel
theorem dX7_canSwap_83 : decode cX7_canSwap 83 = .ok (.iconst 0, 1) := by decide +kernel
theorem dX7_canSwap_84 : decode cX7_canSwap 84 = .ok (.istore_n 2, 1) := by decide +kernel
theorem dX7_canSwap_85 : decode cX7_canSwap 85 = .ok (.iinc 3 1, 3) := by decide +kernel
theorem dX7_canSwap_88 : decode cX7_canSwap 88 = .ok (.goto (-76), 3) := by decide +kernel
theorem dX7_canSwap_91 : decode cX7_canSwap 91 = .ok (.iload_n 2, 1) := by decide +kernel
theorem dX7_canSwap_92 : decode cX7_canSwap 92 = .ok (.ireturn, 1) := by decide +kernel
theorem dX7_swap_0 : decode cX7_swap 0 = .ok (.aload_n 0, 1) := by decide +kernel
theorem dX7_swap_1 : decode cX7_swap 1 = .ok (.iload_n 1, 1) := by decide +kernel
theorem dX7_swap_2 : decode cX7_swap 2 = .ok (.invokevirtual 212, 3) := by decide +kernel
theorem dX7_swap_5 : decode cX7_swap 5 = .ok (.istore_n 2, 1) := by decide +kernel
theorem dX7_swap_6 : decode cX7_swap 6 = .ok (.iload_n 2, 1) := by decide +kernel
theorem dX7_swap_7 : decode cX7_swap 7 = .ok (.ifCond .eq 11, 3) := by decide +kernel
theorem dX7_swap_10 : decode cX7_swap 10 = .ok (.aload_n 0, 1) := by decide +kernel
theorem dX7_swap_11 : decode cX7_swap 11 = .ok (.iload_n 1, 1) := by decide +kernel
theorem dX7_swap_12 : decode cX7_swap 12 = .ok (.invokevirtual 227, 3) := by decide +kernel
theorem dX7_swap_15 : decode cX7_swap 15 = .ok (.goto 4, 3) := by decide +kernel
theorem dX7_swap_18 : decode cX7_swap 18 = .ok (.iconst 0, 1) := by decide +kernel
theorem dX7_swap_19 : decode cX7_swap 19 = .ok (.istore_n 3, 1) := by decide +kernel
theorem dX7_swap_20 : decode cX7_swap 20 = .ok (.aload_n 0, 1) := by decide +kernel
theorem dX7_swap_21 : decode cX7_swap 21 = .ok (.iload_n 2, 1) := by decide +kernel
theorem dX7_swap_22 : decode cX7_swap 22 = .ok (.aload_n 0, 1) := by decide +kernel
theorem dX7_swap_23 : decode cX7_swap 23 = .ok (.iload_n 3, 1) := by decide +kernel
theorem dX7_swap_24 : decode cX7_swap 24 = .ok (.invokevirtual 230, 3) := by decide +kernel
theorem dX7_swap_27 : decode cX7_swap 27 = .ok (.invokevirtual 104, 3) := by decide +kernel
theorem dX7_swap_30 : decode cX7_swap 30 = .ok (.ifCond .ne 5, 3) := by decide +kernel
theorem dX7_swap_33 : decode cX7_swap 33 = .ok (.iconst 0, 1) := by decide +kernel
theorem dX7_swap_34 : decode cX7_swap 34 = .ok (.ireturn, 1) := by decide +kernel
theorem dX7_swap_35 : decode cX7_swap 35 = .ok (.aload_n 0, 1) := by decide +kernel
theorem dX7_swap_36 : decode cX7_swap 36 = .ok (.getfield 95, 3) := by decide +kernel
theorem dX7_swap_39 : decode cX7_swap 39 = .ok (.istore 4, 2) := by decide +kernel
theorem dX7_swap_41 : decode cX7_swap 41 = .ok (.aload_n 0, 1) := by decide +kernel
theorem dX7_swap_42 : decode cX7_swap 42 = .ok (.getfield 25, 3) := by decide +kernel
theorem dX7_swap_45 : decode cX7_swap 45 = .ok (.aload_n 0, 1) := by decide +kernel
theorem dX7_swap_46 : decode cX7_swap 46 = .ok (.getfield 69, 3) := by decide +kernel
theorem dX7_swap_49 : decode cX7_swap 49 = .ok (.aload_n 0, 1) := by decide +kernel
theorem dX7_swap_50 : decode cX7_swap 50 = .ok (.getfield 78, 3) := by decide +kernel
theorem dX7_swap_53 : decode cX7_swap 53 = .ok (.iconst 0, 1) := by decide +kernel
theorem dX7_swap_54 : decode cX7_swap 54 = .ok (.iaload, 1) := by decide +kernel
theorem dX7_swap_55 : decode cX7_swap 55 = .ok (.iaload, 1) := by decide +kernel
theorem dX7_swap_56 : decode cX7_swap 56 = .ok (.iaload, 1) := by decide +kernel
theorem dX7_swap_57 : decode cX7_swap 57 = .ok (.istore 5, 2) := by decide +kernel
theorem dX7_swap_59 : decode cX7_swap 59 = .ok (.aload_n 0, 1) := by decide +kernel
theorem dX7_swap_60 : decode cX7_swap 60 = .ok (.getfield 72, 3) := by decide +kernel
theorem dX7_swap_63 : decode cX7_swap 63 = .ok (.aload_n 0, 1) := by decide +kernel
theorem dX7_swap_64 : decode cX7_swap 64 = .ok (.getfield 78, 3) := by decide +kernel
theorem dX7_swap_67 : decode cX7_swap 67 = .ok (.iconst 0, 1) := by decide +kernel
theorem dX7_swap_68 : decode cX7_swap 68 = .ok (.iaload, 1) := by decide +kernel
theorem dX7_swap_69 : decode cX7_swap 69 = .ok (.iaload, 1) := by decide +kernel
theorem dX7_swap_70 : decode cX7_swap 70 = .ok (.istore 6, 2) := by decide +kernel
theorem dX7_swap_72 : decode cX7_swap 72 = .ok (.iconst 1, 1) := by decide +kernel
theorem dX7_swap_73 : decode cX7_swap 73 = .ok (.istore 7, 2) := by decide +kernel
theorem dX7_swap_75 : decode cX7_swap 75 = .ok (.iload 7, 2) := by decide +kernel
theorem dX7_swap_77 : decode cX7_swap 77 = .ok (.iload_n 3, 1) := by decide +kernel
theorem dX7_swap_78 : decode cX7_swap 78 = .ok (.if_icmp .ge 58, 3) := by decide +kernel
theorem dX7_swap_81 : decode cX7_swap 81 = .ok (.aload_n 0, 1) := by decide +kernel
theorem dX7_swap_82 : decode cX7_swap 82 = .ok (.getfield 25, 3) := by decide +kernel
theorem dX7_swap_85 : decode cX7_swap 85 = .ok (.aload_n 0, 1) := by decide +kernel
theorem dX7_swap_86 : decode cX7_swap 86 = .ok (.getfield 69, 3) := by decide +kernel
theorem dX7_swap_89 : decode cX7_swap 89 = .ok (.aload_n 0, 1) := by decide +kernel
theorem dX7_swap_90 : decode cX7_swap 90 = .ok (.getfield 78, 3) := by decide +kernel
theorem dX7_swap_93 : decode cX7_swap 93 = .ok (.iload 7, 2) := by decide +kernel
theorem dX7_swap_95 : decode cX7_swap 95 = .ok (.iaload, 1) := by decide +kernel
theorem dX7_swap_96 : decode cX7_swap 96 = .ok (.iaload, 1) := by decide +kernel
theorem dX7_swap_97 : decode cX7_swap 97 = .ok (.iaload, 1) := by decide +kernel
theorem dX7_swap_98 : decode cX7_swap 98 = .ok (.istore 8, 2) := by decide +kernel
theorem dX7_swap_100 : decode cX7_swap 100 = .ok (.aload_n 0, 1) := by decide +kernel
theorem dX7_swap_101 : decode cX7_swap 101 = .ok (.getfield 72, 3) := by decide +kernel
theorem dX7_swap_104 : decode cX7_swap 104 = .ok (.aload_n 0, 1) := by decide +kernel
theorem dX7_swap_105 : decode cX7_swap 105 = .ok (.getfield 78, 3) := by decide +kernel
theorem dX7_swap_108 : decode cX7_swap 108 = .ok (.iload 7, 2) := by decide +kernel
theorem dX7_swap_110 : decode cX7_swap 110 = .ok (.iaload, 1) := by decide +kernel
theorem dX7_swap_111 : decode cX7_swap 111 = .ok (.iaload, 1) := by decide +kernel
theorem dX7_swap_112 : decode cX7_swap 112 = .ok (.istore 9, 2) := by decide +kernel
theorem dX7_swap_114 : decode cX7_swap 114 = .ok (.aload_n 0, 1) := by decide +kernel
theorem dX7_swap_115 : decode cX7_swap 115 = .ok (.iload 6, 2) := by decide +kernel
theorem dX7_swap_117 : decode cX7_swap 117 = .ok (.iload 5, 2) := by decide +kernel
theorem dX7_swap_119 : decode cX7_swap 119 = .ok (.invokevirtual 118, 3) := by decide +kernel
theorem dX7_swap_122 : decode cX7_swap 122 = .ok (.iload 8, 2) := by decide +kernel
theorem dX7_swap_124 : decode cX7_swap 124 = .ok (.istore 5, 2) := by decide +kernel
theorem dX7_swap_126 : decode cX7_swap 126 = .ok (.iload 9, 2) := by decide +kernel
theorem dX7_swap_128 : decode cX7_swap 128 = .ok (.istore 6, 2) := by decide +kernel
theorem dX7_swap_130 : decode cX7_swap 130 = .ok (.iinc 7 1, 3) := by decide +kernel
theorem dX7_swap_133 : decode cX7_swap 133 = .ok (.goto (-58), 3) := by decide +kernel
theorem dX7_swap_136 : decode cX7_swap 136 = .ok (.aload_n 0, 1) := by decide +kernel
theorem dX7_swap_137 : decode cX7_swap 137 = .ok (.iload 6, 2) := by decide +kernel
theorem dX7_swap_139 : decode cX7_swap 139 = .ok (.iload 5, 2) := by decide +kernel
theorem dX7_swap_141 : decode cX7_swap 141 = .ok (.invokevirtual 118, 3) := by decide +kernel
theorem dX7_swap_144 : decode cX7_swap 144 = .ok (.aload_n 0, 1) := by decide +kernel
theorem dX7_swap_145 : decode cX7_swap 145 = .ok (.invokevirtual 122, 3) := by decide +kernel
theorem dX7_swap_148 : decode cX7_swap 148 = .ok (.pop, 1) := by decide +kernel
theorem dX7_swap_149 : decode cX7_swap 149 = .ok (.aload_n 0, 1) := by decide +kernel
theorem dX7_swap_150 : decode cX7_swap 150 = .ok (.getfield 95, 3) := by decide +kernel
theorem dX7_swap_153 : decode cX7_swap 153 = .ok (.iload 4, 2) := by decide +kernel
theorem dX7_swap_155 : decode cX7_swap 155 = .ok (.isub, 1) := by decide +kernel
theorem dX7_swap_156 : decode cX7_swap 156 = .ok (.ireturn, 1) := by decide +kernel
