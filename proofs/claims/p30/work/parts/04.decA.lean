theorem dX0_init_0 : decode cX0_init 0 = .ok (.aload_n 0, 1) := by decide +kernel
theorem dX0_init_1 : decode cX0_init 1 = .ok (.invokespecial 3, 3) := by decide +kernel
theorem dX0_init_4 : decode cX0_init 4 = .ok (.aload_n 0, 1) := by decide +kernel
theorem dX0_init_5 : decode cX0_init 5 = .ok (.iconst 0, 1) := by decide +kernel
theorem dX0_init_6 : decode cX0_init 6 = .ok (.putfield 9, 3) := by decide +kernel
theorem dX0_init_9 : decode cX0_init 9 = .ok (.aload_n 0, 1) := by decide +kernel
theorem dX0_init_10 : decode cX0_init 10 = .ok (.aload_n 1, 1) := by decide +kernel
theorem dX0_init_11 : decode cX0_init 11 = .ok (.putfield 15, 3) := by decide +kernel
theorem dX0_init_14 : decode cX0_init 14 = .ok (.aload_n 0, 1) := by decide +kernel
theorem dX0_init_15 : decode cX0_init 15 = .ok (.aload_n 2, 1) := by decide +kernel
theorem dX0_init_16 : decode cX0_init 16 = .ok (.putfield 19, 3) := by decide +kernel
theorem dX0_init_19 : decode cX0_init 19 = .ok (.aload_n 0, 1) := by decide +kernel
theorem dX0_init_20 : decode cX0_init 20 = .ok (.aload_n 3, 1) := by decide +kernel
theorem dX0_init_21 : decode cX0_init 21 = .ok (.putfield 23, 3) := by decide +kernel
theorem dX0_init_24 : decode cX0_init 24 = .ok (.aload_n 0, 1) := by decide +kernel
theorem dX0_init_25 : decode cX0_init 25 = .ok (.aload_n 2, 1) := by decide +kernel
theorem dX0_init_26 : decode cX0_init 26 = .ok (.getfield 27, 3) := by decide +kernel
theorem dX0_init_29 : decode cX0_init 29 = .ok (.putfield 33, 3) := by decide +kernel
theorem dX0_init_32 : decode cX0_init 32 = .ok (.return_, 1) := by decide +kernel
theorem dX0_isFounded_0 : decode cX0_isFounded 0 = .ok (.aload_n 0, 1) := by decide +kernel
theorem dX0_isFounded_1 : decode cX0_isFounded 1 = .ok (.getfield 19, 3) := by decide +kernel
theorem dX0_isFounded_4 : decode cX0_isFounded 4 = .ok (.getfield 36, 3) := by decide +kernel
theorem dX0_isFounded_7 : decode cX0_isFounded 7 = .ok (.aload_n 0, 1) := by decide +kernel
theorem dX0_isFounded_8 : decode cX0_isFounded 8 = .ok (.getfield 15, 3) := by decide +kernel
theorem dX0_isFounded_11 : decode cX0_isFounded 11 = .ok (.if_acmp .ne 21, 3) := by decide +kernel
theorem dX0_isFounded_14 : decode cX0_isFounded 14 = .ok (.aload_n 0, 1) := by decide +kernel
theorem dX0_isFounded_15 : decode cX0_isFounded 15 = .ok (.getfield 23, 3) := by decide +kernel
theorem dX0_isFounded_18 : decode cX0_isFounded 18 = .ok (.aload_n 0, 1) := by decide +kernel
theorem dX0_isFounded_19 : decode cX0_isFounded 19 = .ok (.getfield 19, 3) := by decide +kernel
theorem dX0_isFounded_22 : decode cX0_isFounded 22 = .ok (.invokevirtual 39, 3) := by decide +kernel
theorem dX0_isFounded_25 : decode cX0_isFounded 25 = .ok (.ifCond .eq 7, 3) := by decide +kernel
theorem dX0_isFounded_28 : decode cX0_isFounded 28 = .ok (.iconst 1, 1) := by decide +kernel
theorem dX0_isFounded_29 : decode cX0_isFounded 29 = .ok (.goto 4, 3) := by decide +kernel
theorem dX0_isFounded_32 : decode cX0_isFounded 32 = .ok (.iconst 0, 1) := by decide +kernel
theorem dX0_isFounded_33 : decode cX0_isFounded 33 = .ok (.ireturn, 1) := by decide +kernel
theorem dX0_lapse_0 : decode cX0_lapse 0 = .ok (.aload_n 0, 1) := by decide +kernel
theorem dX0_lapse_1 : decode cX0_lapse 1 = .ok (.getfield 9, 3) := by decide +kernel
theorem dX0_lapse_4 : decode cX0_lapse 4 = .ok (.ifCond .ne 10, 3) := by decide +kernel
theorem dX0_lapse_7 : decode cX0_lapse 7 = .ok (.aload_n 0, 1) := by decide +kernel
theorem dX0_lapse_8 : decode cX0_lapse 8 = .ok (.iconst 2, 1) := by decide +kernel
theorem dX0_lapse_9 : decode cX0_lapse 9 = .ok (.putfield 9, 3) := by decide +kernel
theorem dX0_lapse_12 : decode cX0_lapse 12 = .ok (.iconst 1, 1) := by decide +kernel
theorem dX0_lapse_13 : decode cX0_lapse 13 = .ok (.ireturn, 1) := by decide +kernel
theorem dX0_lapse_14 : decode cX0_lapse 14 = .ok (.aload_n 0, 1) := by decide +kernel
theorem dX0_lapse_15 : decode cX0_lapse 15 = .ok (.getfield 9, 3) := by decide +kernel
theorem dX0_lapse_18 : decode cX0_lapse 18 = .ok (.iconst 1, 1) := by decide +kernel
theorem dX0_lapse_19 : decode cX0_lapse 19 = .ok (.if_icmp .ne 10, 3) := by decide +kernel
theorem dX0_lapse_22 : decode cX0_lapse 22 = .ok (.aload_n 0, 1) := by decide +kernel
theorem dX0_lapse_23 : decode cX0_lapse 23 = .ok (.iconst 3, 1) := by decide +kernel
theorem dX0_lapse_24 : decode cX0_lapse 24 = .ok (.putfield 9, 3) := by decide +kernel
theorem dX0_lapse_27 : decode cX0_lapse 27 = .ok (.iconst 1, 1) := by decide +kernel
theorem dX0_lapse_28 : decode cX0_lapse 28 = .ok (.ireturn, 1) := by decide +kernel
theorem dX0_lapse_29 : decode cX0_lapse 29 = .ok (.iconst 0, 1) := by decide +kernel
theorem dX0_lapse_30 : decode cX0_lapse 30 = .ok (.ireturn, 1) := by decide +kernel
theorem dX0_revive_0 : decode cX0_revive 0 = .ok (.aload_n 0, 1) := by decide +kernel
theorem dX0_revive_1 : decode cX0_revive 1 = .ok (.getfield 9, 3) := by decide +kernel
theorem dX0_revive_4 : decode cX0_revive 4 = .ok (.iconst 2, 1) := by decide +kernel
theorem dX0_revive_5 : decode cX0_revive 5 = .ok (.if_icmp .ne 11, 3) := by decide +kernel
theorem dX0_revive_8 : decode cX0_revive 8 = .ok (.aload_n 0, 1) := by decide +kernel
theorem dX0_revive_9 : decode cX0_revive 9 = .ok (.iconst 0, 1) := by decide +kernel
theorem dX0_revive_10 : decode cX0_revive 10 = .ok (.putfield 9, 3) := by decide +kernel
theorem dX0_revive_13 : decode cX0_revive 13 = .ok (.goto 16, 3) := by decide +kernel
theorem dX0_revive_16 : decode cX0_revive 16 = .ok (.aload_n 0, 1) := by decide +kernel
theorem dX0_revive_17 : decode cX0_revive 17 = .ok (.getfield 9, 3) := by decide +kernel
theorem dX0_revive_20 : decode cX0_revive 20 = .ok (.iconst 3, 1) := by decide +kernel
theorem dX0_revive_21 : decode cX0_revive 21 = .ok (.if_icmp .ne 8, 3) := by decide +kernel
theorem dX0_revive_24 : decode cX0_revive 24 = .ok (.aload_n 0, 1) := by decide +kernel
theorem dX0_revive_25 : decode cX0_revive 25 = .ok (.iconst 1, 1) := by decide +kernel
theorem dX0_revive_26 : decode cX0_revive 26 = .ok (.putfield 9, 3) := by decide +kernel
theorem dX0_revive_29 : decode cX0_revive 29 = .ok (.return_, 1) := by decide +kernel
theorem dX0_worthNow_0 : decode cX0_worthNow 0 = .ok (.aload_n 0, 1) := by decide +kernel
theorem dX0_worthNow_1 : decode cX0_worthNow 1 = .ok (.getfield 19, 3) := by decide +kernel
theorem dX0_worthNow_4 : decode cX0_worthNow 4 = .ok (.invokevirtual 45, 3) := by decide +kernel
theorem dX0_worthNow_7 : decode cX0_worthNow 7 = .ok (.aload_n 0, 1) := by decide +kernel
theorem dX0_worthNow_8 : decode cX0_worthNow 8 = .ok (.getfield 15, 3) := by decide +kernel
theorem dX0_worthNow_11 : decode cX0_worthNow 11 = .ok (.getfield 49, 3) := by decide +kernel
theorem dX0_worthNow_14 : decode cX0_worthNow 14 = .ok (.imul, 1) := by decide +kernel
theorem dX0_worthNow_15 : decode cX0_worthNow 15 = .ok (.aload_n 0, 1) := by decide +kernel
theorem dX0_worthNow_16 : decode cX0_worthNow 16 = .ok (.getfield 23, 3) := by decide +kernel
theorem dX0_worthNow_19 : decode cX0_worthNow 19 = .ok (.getfield 54, 3) := by decide +kernel
theorem dX0_worthNow_22 : decode cX0_worthNow 22 = .ok (.imul, 1) := by decide +kernel
theorem dX0_worthNow_23 : decode cX0_worthNow 23 = .ok (.bipush 100, 2) := by decide +kernel
theorem dX0_worthNow_25 : decode cX0_worthNow 25 = .ok (.idiv, 1) := by decide +kernel
theorem dX0_worthNow_26 : decode cX0_worthNow 26 = .ok (.ireturn, 1) := by decide +kernel
theorem dX1_init_0 : decode cX1_init 0 = .ok (.aload_n 0, 1) := by decide +kernel
theorem dX1_init_1 : decode cX1_init 1 = .ok (.invokespecial 1, 3) := by decide +kernel
theorem dX1_init_4 : decode cX1_init 4 = .ok (.aload_n 0, 1) := by decide +kernel
theorem dX1_init_5 : decode cX1_init 5 = .ok (.iconst 1, 1) := by decide +kernel
theorem dX1_init_6 : decode cX1_init 6 = .ok (.putfield 7, 3) := by decide +kernel
theorem dX1_init_9 : decode cX1_init 9 = .ok (.aload_n 0, 1) := by decide +kernel
theorem dX1_init_10 : decode cX1_init 10 = .ok (.aload_n 1, 1) := by decide +kernel
theorem dX1_init_11 : decode cX1_init 11 = .ok (.putfield 13, 3) := by decide +kernel
theorem dX1_init_14 : decode cX1_init 14 = .ok (.aload_n 0, 1) := by decide +kernel
theorem dX1_init_15 : decode cX1_init 15 = .ok (.aload_n 2, 1) := by decide +kernel
theorem dX1_init_16 : decode cX1_init 16 = .ok (.putfield 17, 3) := by decide +kernel
theorem dX1_init_19 : decode cX1_init 19 = .ok (.aload_n 0, 1) := by decide +kernel
theorem dX1_init_20 : decode cX1_init 20 = .ok (.aload_n 3, 1) := by decide +kernel
theorem dX1_init_21 : decode cX1_init 21 = .ok (.putfield 21, 3) := by decide +kernel
theorem dX1_init_24 : decode cX1_init 24 = .ok (.return_, 1) := by decide +kernel
theorem dX2_init_0 : decode cX2_init 0 = .ok (.aload_n 0, 1) := by decide +kernel
theorem dX2_init_1 : decode cX2_init 1 = .ok (.invokespecial 3, 3) := by decide +kernel
theorem dX2_init_4 : decode cX2_init 4 = .ok (.aload_n 0, 1) := by decide +kernel
theorem dX2_init_5 : decode cX2_init 5 = .ok (.iload_n 1, 1) := by decide +kernel
theorem dX2_init_6 : decode cX2_init 6 = .ok (.putfield 9, 3) := by decide +kernel
theorem dX2_init_9 : decode cX2_init 9 = .ok (.aload_n 0, 1) := by decide +kernel
theorem dX2_init_10 : decode cX2_init 10 = .ok (.aload_n 2, 1) := by decide +kernel
theorem dX2_init_11 : decode cX2_init 11 = .ok (.getfield 15, 3) := by decide +kernel
theorem dX2_init_14 : decode cX2_init 14 = .ok (.putfield 20, 3) := by decide +kernel
theorem dX2_init_17 : decode cX2_init 17 = .ok (.aload_n 0, 1) := by decide +kernel
theorem dX2_init_18 : decode cX2_init 18 = .ok (.aload_n 2, 1) := by decide +kernel
theorem dX2_init_19 : decode cX2_init 19 = .ok (.getfield 21, 3) := by decide +kernel
theorem dX2_init_22 : decode cX2_init 22 = .ok (.putfield 24, 3) := by decide +kernel
theorem dX2_init_25 : decode cX2_init 25 = .ok (.aload_n 0, 1) := by decide +kernel
theorem dX2_init_26 : decode cX2_init 26 = .ok (.aload_n 2, 1) := by decide +kernel
theorem dX2_init_27 : decode cX2_init 27 = .ok (.getfield 25, 3) := by decide +kernel
theorem dX2_init_30 : decode cX2_init 30 = .ok (.putfield 28, 3) := by decide +kernel
theorem dX2_init_33 : decode cX2_init 33 = .ok (.aload_n 0, 1) := by decide +kernel
theorem dX2_init_34 : decode cX2_init 34 = .ok (.aload_n 2, 1) := by decide +kernel
theorem dX2_init_35 : decode cX2_init 35 = .ok (.getfield 29, 3) := by decide +kernel
theorem dX2_init_38 : decode cX2_init 38 = .ok (.putfield 32, 3) := by decide +kernel
theorem dX2_init_41 : decode cX2_init 41 = .ok (.return_, 1) := by decide +kernel
theorem dX2_isBrokenBy_0 : decode cX2_isBrokenBy 0 = .ok (.aload_n 1, 1) := by decide +kernel
theorem dX2_isBrokenBy_1 : decode cX2_isBrokenBy 1 = .ok (.getfield 33, 3) := by decide +kernel
theorem dX2_isBrokenBy_4 : decode cX2_isBrokenBy 4 = .ok (.astore_n 2, 1) := by decide +kernel
theorem dX2_isBrokenBy_5 : decode cX2_isBrokenBy 5 = .ok (.aload_n 0, 1) := by decide +kernel
theorem dX2_isBrokenBy_6 : decode cX2_isBrokenBy 6 = .ok (.getfield 39, 3) := by decide +kernel
theorem dX2_isBrokenBy_9 : decode cX2_isBrokenBy 9 = .ok (.ifCond .ne 26, 3) := by decide +kernel
theorem dX2_isBrokenBy_12 : decode cX2_isBrokenBy 12 = .ok (.aload_n 2, 1) := by decide +kernel
theorem dX2_isBrokenBy_13 : decode cX2_isBrokenBy 13 = .ok (.ifnull 22, 3) := by decide +kernel
theorem dX2_isBrokenBy_16 : decode cX2_isBrokenBy 16 = .ok (.aload_n 0, 1) := by decide +kernel
theorem dX2_isBrokenBy_17 : decode cX2_isBrokenBy 17 = .ok (.getfield 28, 3) := by decide +kernel
theorem dX2_isBrokenBy_20 : decode cX2_isBrokenBy 20 = .ok (.iconst (-1), 1) := by decide +kernel
theorem dX2_isBrokenBy_21 : decode cX2_isBrokenBy 21 = .ok (.if_icmp .eq 16, 3) := by decide +kernel
theorem dX2_isBrokenBy_24 : decode cX2_isBrokenBy 24 = .ok (.aload_n 0, 1) := by decide +kernel
theorem dX2_isBrokenBy_25 : decode cX2_isBrokenBy 25 = .ok (.getfield 28, 3) := by decide +kernel
theorem dX2_isBrokenBy_28 : decode cX2_isBrokenBy 28 = .ok (.aload_n 1, 1) := by decide +kernel
theorem dX2_isBrokenBy_29 : decode cX2_isBrokenBy 29 = .ok (.getfield 43, 3) := by decide +kernel
theorem dX2_isBrokenBy_32 : decode cX2_isBrokenBy 32 = .ok (.if_icmp .eq 5, 3) := by decide +kernel
theorem dX2_isBrokenBy_35 : decode cX2_isBrokenBy 35 = .ok (.iconst 0, 1) := by decide +kernel
theorem dX2_isBrokenBy_36 : decode cX2_isBrokenBy 36 = .ok (.ireturn, 1) := by decide +kernel
theorem dX2_isBrokenBy_37 : decode cX2_isBrokenBy 37 = .ok (.aload_n 0, 1) := by decide +kernel
theorem dX2_isBrokenBy_38 : decode cX2_isBrokenBy 38 = .ok (.getfield 20, 3) := by decide +kernel
theorem dX2_isBrokenBy_41 : decode cX2_isBrokenBy 41 = .ok (.tableswitch 102 0 3 #[31, 49, 67, 85], 31) := by decide +kernel
theorem dX2_isBrokenBy_72 : decode cX2_isBrokenBy 72 = .ok (.aload_n 2, 1) := by decide +kernel
theorem dX2_isBrokenBy_73 : decode cX2_isBrokenBy 73 = .ok (.aload_n 1, 1) := by decide +kernel
theorem dX2_isBrokenBy_74 : decode cX2_isBrokenBy 74 = .ok (.invokevirtual 44, 3) := by decide +kernel
theorem dX2_isBrokenBy_77 : decode cX2_isBrokenBy 77 = .ok (.aload_n 0, 1) := by decide +kernel
theorem dX2_isBrokenBy_78 : decode cX2_isBrokenBy 78 = .ok (.getfield 24, 3) := by decide +kernel
theorem dX2_isBrokenBy_81 : decode cX2_isBrokenBy 81 = .ok (.if_icmp .ge 7, 3) := by decide +kernel
theorem dX2_isBrokenBy_84 : decode cX2_isBrokenBy 84 = .ok (.iconst 1, 1) := by decide +kernel
theorem dX2_isBrokenBy_85 : decode cX2_isBrokenBy 85 = .ok (.goto 4, 3) := by decide +kernel
theorem dX2_isBrokenBy_88 : decode cX2_isBrokenBy 88 = .ok (.iconst 0, 1) := by decide +kernel
theorem dX2_isBrokenBy_89 : decode cX2_isBrokenBy 89 = .ok (.ireturn, 1) := by decide +kernel
theorem dX2_isBrokenBy_90 : decode cX2_isBrokenBy 90 = .ok (.aload_n 2, 1) := by decide +kernel
theorem dX2_isBrokenBy_91 : decode cX2_isBrokenBy 91 = .ok (.aload_n 1, 1) := by decide +kernel
theorem dX2_isBrokenBy_92 : decode cX2_isBrokenBy 92 = .ok (.invokevirtual 50, 3) := by decide +kernel
theorem dX2_isBrokenBy_95 : decode cX2_isBrokenBy 95 = .ok (.aload_n 0, 1) := by decide +kernel
theorem dX2_isBrokenBy_96 : decode cX2_isBrokenBy 96 = .ok (.getfield 24, 3) := by decide +kernel
theorem dX2_isBrokenBy_99 : decode cX2_isBrokenBy 99 = .ok (.if_icmp .le 7, 3) := by decide +kernel
theorem dX2_isBrokenBy_102 : decode cX2_isBrokenBy 102 = .ok (.iconst 1, 1) := by decide +kernel
theorem dX2_isBrokenBy_103 : decode cX2_isBrokenBy 103 = .ok (.goto 4, 3) := by decide +kernel
theorem dX2_isBrokenBy_106 : decode cX2_isBrokenBy 106 = .ok (.iconst 0, 1) := by decide +kernel
theorem dX2_isBrokenBy_107 : decode cX2_isBrokenBy 107 = .ok (.ireturn, 1) := by decide +kernel
theorem dX2_isBrokenBy_108 : decode cX2_isBrokenBy 108 = .ok (.aload_n 2, 1) := by decide +kernel
theorem dX2_isBrokenBy_109 : decode cX2_isBrokenBy 109 = .ok (.aload_n 1, 1) := by decide +kernel
theorem dX2_isBrokenBy_110 : decode cX2_isBrokenBy 110 = .ok (.invokevirtual 53, 3) := by decide +kernel
theorem dX2_isBrokenBy_113 : decode cX2_isBrokenBy 113 = .ok (.aload_n 0, 1) := by decide +kernel
theorem dX2_isBrokenBy_114 : decode cX2_isBrokenBy 114 = .ok (.getfield 24, 3) := by decide +kernel
theorem dX2_isBrokenBy_117 : decode cX2_isBrokenBy 117 = .ok (.if_icmp .lt 7, 3) := by decide +kernel
theorem dX2_isBrokenBy_120 : decode cX2_isBrokenBy 120 = .ok (.iconst 1, 1) := by decide +kernel
theorem dX2_isBrokenBy_121 : decode cX2_isBrokenBy 121 = .ok (.goto 4, 3) := by decide +kernel
theorem dX2_isBrokenBy_124 : decode cX2_isBrokenBy 124 = .ok (.iconst 0, 1) := by decide +kernel
theorem dX2_isBrokenBy_125 : decode cX2_isBrokenBy 125 = .ok (.ireturn, 1) := by decide +kernel
theorem dX2_isBrokenBy_126 : decode cX2_isBrokenBy 126 = .ok (.aload_n 1, 1) := by decide +kernel
theorem dX2_isBrokenBy_127 : decode cX2_isBrokenBy 127 = .ok (.invokevirtual 56, 3) := by decide +kernel
theorem dX2_isBrokenBy_130 : decode cX2_isBrokenBy 130 = .ok (.aload_n 0, 1) := by decide +kernel
theorem dX2_isBrokenBy_131 : decode cX2_isBrokenBy 131 = .ok (.getfield 24, 3) := by decide +kernel
theorem dX2_isBrokenBy_134 : decode cX2_isBrokenBy 134 = .ok (.if_icmp .le 7, 3) := by decide +kernel
theorem dX2_isBrokenBy_137 : decode cX2_isBrokenBy 137 = .ok (.iconst 1, 1) := by decide +kernel
theorem dX2_isBrokenBy_138 : decode cX2_isBrokenBy 138 = .ok (.goto 4, 3) := by decide +kernel
theorem dX2_isBrokenBy_141 : decode cX2_isBrokenBy 141 = .ok (.iconst 0, 1) := by decide +kernel
theorem dX2_isBrokenBy_142 : decode cX2_isBrokenBy 142 = .ok (.ireturn, 1) := by decide +kernel
theorem dX2_isBrokenBy_143 : decode cX2_isBrokenBy 143 = .ok (.iconst 0, 1) := by decide +kernel
theorem dX2_isBrokenBy_144 : decode cX2_isBrokenBy 144 = .ok (.ireturn, 1) := by decide +kernel
theorem dX3_init_0 : decode cX3_init 0 = .ok (.aload_n 0, 1) := by decide +kernel
theorem dX3_init_1 : decode cX3_init 1 = .ok (.invokespecial 3, 3) := by decide +kernel
theorem dX3_init_4 : decode cX3_init 4 = .ok (.aload_n 0, 1) := by decide +kernel
theorem dX3_init_5 : decode cX3_init 5 = .ok (.bipush 40, 2) := by decide +kernel
theorem dX3_init_7 : decode cX3_init 7 = .ok (.newarray .char, 2) := by decide +kernel
theorem dX3_init_9 : decode cX3_init 9 = .ok (.putfield 9, 3) := by decide +kernel
theorem dX3_init_12 : decode cX3_init 12 = .ok (.return_, 1) := by decide +kernel
theorem dX3_isAllowed_0 : decode cX3_isAllowed 0 = .ok (.iload_n 0, 1) := by decide +kernel
theorem dX3_isAllowed_1 : decode cX3_isAllowed 1 = .ok (.bipush 32, 2) := by decide +kernel
theorem dX3_isAllowed_3 : decode cX3_isAllowed 3 = .ok (.if_icmp .eq 22, 3) := by decide +kernel
theorem dX3_isAllowed_6 : decode cX3_isAllowed 6 = .ok (.iload_n 0, 1) := by decide +kernel
theorem dX3_isAllowed_7 : decode cX3_isAllowed 7 = .ok (.invokestatic 15, 3) := by decide +kernel
theorem dX3_isAllowed_10 : decode cX3_isAllowed 10 = .ok (.ifCond .ne 15, 3) := by decide +kernel
theorem dX3_isAllowed_13 : decode cX3_isAllowed 13 = .ok (.iload_n 0, 1) := by decide +kernel
theorem dX3_isAllowed_14 : decode cX3_isAllowed 14 = .ok (.bipush 65, 2) := by decide +kernel
theorem dX3_isAllowed_16 : decode cX3_isAllowed 16 = .ok (.if_icmp .lt 13, 3) := by decide +kernel
theorem dX3_isAllowed_19 : decode cX3_isAllowed 19 = .ok (.iload_n 0, 1) := by decide +kernel
theorem dX3_isAllowed_20 : decode cX3_isAllowed 20 = .ok (.bipush 90, 2) := by decide +kernel
theorem dX3_isAllowed_22 : decode cX3_isAllowed 22 = .ok (.if_icmp .gt 7, 3) := by decide +kernel
theorem dX3_isAllowed_25 : decode cX3_isAllowed 25 = .ok (.iconst 1, 1) := by decide +kernel
theorem dX3_isAllowed_26 : decode cX3_isAllowed 26 = .ok (.goto 4, 3) := by decide +kernel
theorem dX3_isAllowed_29 : decode cX3_isAllowed 29 = .ok (.iconst 0, 1) := by decide +kernel
theorem dX3_isAllowed_30 : decode cX3_isAllowed 30 = .ok (.ireturn, 1) := by decide +kernel
theorem dX3_isDigit_0 : decode cX3_isDigit 0 = .ok (.iload_n 0, 1) := by decide +kernel
theorem dX3_isDigit_1 : decode cX3_isDigit 1 = .ok (.bipush 48, 2) := by decide +kernel
theorem dX3_isDigit_3 : decode cX3_isDigit 3 = .ok (.if_icmp .lt 13, 3) := by decide +kernel
theorem dX3_isDigit_6 : decode cX3_isDigit 6 = .ok (.iload_n 0, 1) := by decide +kernel
theorem dX3_isDigit_7 : decode cX3_isDigit 7 = .ok (.bipush 57, 2) := by decide +kernel
theorem dX3_isDigit_9 : decode cX3_isDigit 9 = .ok (.if_icmp .gt 7, 3) := by decide +kernel
theorem dX3_isDigit_12 : decode cX3_isDigit 12 = .ok (.iconst 1, 1) := by decide +kernel
theorem dX3_isDigit_13 : decode cX3_isDigit 13 = .ok (.goto 4, 3) := by decide +kernel
theorem dX3_isDigit_16 : decode cX3_isDigit 16 = .ok (.iconst 0, 1) := by decide +kernel
theorem dX3_isDigit_17 : decode cX3_isDigit 17 = .ok (.ireturn, 1) := by decide +kernel
theorem dX3_isFull_0 : decode cX3_isFull 0 = .ok (.aload_n 0, 1) := by decide +kernel
theorem dX3_isFull_1 : decode cX3_isFull 1 = .ok (.getfield 19, 3) := by decide +kernel
theorem dX3_isFull_4 : decode cX3_isFull 4 = .ok (.aload_n 0, 1) := by decide +kernel
theorem dX3_isFull_5 : decode cX3_isFull 5 = .ok (.getfield 9, 3) := by decide +kernel
theorem dX3_isFull_8 : decode cX3_isFull 8 = .ok (.arraylength, 1) := by decide +kernel
theorem dX3_isFull_9 : decode cX3_isFull 9 = .ok (.if_icmp .lt 7, 3) := by decide +kernel
theorem dX3_isFull_12 : decode cX3_isFull 12 = .ok (.iconst 1, 1) := by decide +kernel
theorem dX3_isFull_13 : decode cX3_isFull 13 = .ok (.goto 4, 3) := by decide +kernel
theorem dX3_isFull_16 : decode cX3_isFull 16 = .ok (.iconst 0, 1) := by decide +kernel
theorem dX3_isFull_17 : decode cX3_isFull 17 = .ok (.ireturn, 1) := by decide +kernel
theorem dX3_append_0 : decode cX3_append 0 = .ok (.aload_n 0, 1) := by decide +kernel
theorem dX3_append_1 : decode cX3_append 1 = .ok (.getfield 19, 3) := by decide +kernel
theorem dX3_append_4 : decode cX3_append 4 = .ok (.aload_n 0, 1) := by decide +kernel
theorem dX3_append_5 : decode cX3_append 5 = .ok (.getfield 9, 3) := by decide +kernel
theorem dX3_append_8 : decode cX3_append 8 = .ok (.arraylength, 1) := by decide +kernel
theorem dX3_append_9 : decode cX3_append 9 = .ok (.if_icmp .ge 23, 3) := by decide +kernel
theorem dX3_append_12 : decode cX3_append 12 = .ok (.aload_n 0, 1) := by decide +kernel
theorem dX3_append_13 : decode cX3_append 13 = .ok (.getfield 9, 3) := by decide +kernel
theorem dX3_append_16 : decode cX3_append 16 = .ok (.aload_n 0, 1) := by decide +kernel
theorem dX3_append_17 : decode cX3_append 17 = .ok (.getfield 19, 3) := by decide +kernel
theorem dX3_append_20 : decode cX3_append 20 = .ok (.iload_n 1, 1) := by decide +kernel
theorem dX3_append_21 : decode cX3_append 21 = .ok (.castore, 1) := by decide +kernel
theorem dX3_append_22 : decode cX3_append 22 = .ok (.aload_n 0, 1) := by decide +kernel
theorem dX3_append_23 : decode cX3_append 23 = .ok (.dup, 1) := by decide +kernel
theorem dX3_append_24 : decode cX3_append 24 = .ok (.getfield 19, 3) := by decide +kernel
theorem dX3_append_27 : decode cX3_append 27 = .ok (.iconst 1, 1) := by decide +kernel
theorem dX3_append_28 : decode cX3_append 28 = .ok (.iadd, 1) := by decide +kernel
theorem dX3_append_29 : decode cX3_append 29 = .ok (.putfield 19, 3) := by decide +kernel
theorem dX3_append_32 : decode cX3_append 32 = .ok (.return_, 1) := by decide +kernel
theorem dX3_clear_0 : decode cX3_clear 0 = .ok (.aload_n 0, 1) := by decide +kernel
theorem dX3_clear_1 : decode cX3_clear 1 = .ok (.iconst 0, 1) := by decide +kernel
theorem dX3_clear_2 : decode cX3_clear 2 = .ok (.putfield 19, 3) := by decide +kernel
theorem dX3_clear_5 : decode cX3_clear 5 = .ok (.return_, 1) := by decide +kernel
theorem dX3_parse_0 : decode cX3_parse 0 = .ok (.aload_n 0, 1) := by decide +kernel
theorem dX3_parse_1 : decode cX3_parse 1 = .ok (.iconst 0, 1) := by decide +kernel
theorem dX3_parse_2 : decode cX3_parse 2 = .ok (.putfield 23, 3) := by decide +kernel
theorem dX3_parse_5 : decode cX3_parse 5 = .ok (.aload_n 0, 1) := by decide +kernel
theorem dX3_parse_6 : decode cX3_parse 6 = .ok (.invokevirtual 26, 3) := by decide +kernel
theorem dX3_parse_9 : decode cX3_parse 9 = .ok (.aload_n 0, 1) := by decide +kernel
theorem dX3_parse_10 : decode cX3_parse 10 = .ok (.aload_n 0, 1) := by decide +kernel
theorem dX3_parse_11 : decode cX3_parse 11 = .ok (.invokevirtual 29, 3) := by decide +kernel
theorem dX3_parse_14 : decode cX3_parse 14 = .ok (.putfield 33, 3) := by decide +kernel
theorem dX3_parse_17 : decode cX3_parse 17 = .ok (.aload_n 0, 1) := by decide +kernel
theorem dX3_parse_18 : decode cX3_parse 18 = .ok (.getfield 33, 3) := by decide +kernel
theorem dX3_parse_21 : decode cX3_parse 21 = .ok (.iconst (-1), 1) := by decide +kernel
theorem dX3_parse_22 : decode cX3_parse 22 = .ok (.if_icmp .ne 8, 3) := by decide +kernel
theorem dX3_parse_25 : decode cX3_parse 25 = .ok (.aload_n 0, 1) := by decide +kernel
theorem dX3_parse_26 : decode cX3_parse 26 = .ok (.getfield 36, 3) := by decide +kernel
theorem dX3_parse_29 : decode cX3_parse 29 = .ok (.ireturn, 1) := by decide +kernel
theorem dX3_parse_30 : decode cX3_parse 30 = .ok (.aload_n 0, 1) := by decide +kernel
theorem dX3_parse_31 : decode cX3_parse 31 = .ok (.invokevirtual 26, 3) := by decide +kernel
theorem dX3_parse_34 : decode cX3_parse 34 = .ok (.aload_n 0, 1) := by decide +kernel
theorem dX3_parse_35 : decode cX3_parse 35 = .ok (.aload_n 0, 1) := by decide +kernel
theorem dX3_parse_36 : decode cX3_parse 36 = .ok (.iconst 3, 1) := by decide +kernel
theorem dX3_parse_37 : decode cX3_parse 37 = .ok (.invokevirtual 39, 3) := by decide +kernel
theorem dX3_parse_40 : decode cX3_parse 40 = .ok (.putfield 43, 3) := by decide +kernel
theorem dX3_parse_43 : decode cX3_parse 43 = .ok (.aload_n 0, 1) := by decide +kernel
theorem dX3_parse_44 : decode cX3_parse 44 = .ok (.getfield 43, 3) := by decide +kernel
theorem dX3_parse_47 : decode cX3_parse 47 = .ok (.iconst 1, 1) := by decide +kernel
theorem dX3_parse_48 : decode cX3_parse 48 = .ok (.if_icmp .lt 13, 3) := by decide +kernel
theorem dX3_parse_51 : decode cX3_parse 51 = .ok (.aload_n 0, 1) := by decide +kernel
theorem dX3_parse_52 : decode cX3_parse 52 = .ok (.getfield 43, 3) := by decide +kernel
theorem dX3_parse_55 : decode cX3_parse 55 = .ok (.sipush 200, 3) := by decide +kernel
theorem dX3_parse_58 : decode cX3_parse 58 = .ok (.if_icmp .le 8, 3) := by decide +kernel
theorem dX3_parse_61 : decode cX3_parse 61 = .ok (.aload_n 0, 1) := by decide +kernel
theorem dX3_parse_62 : decode cX3_parse 62 = .ok (.getfield 36, 3) := by decide +kernel
theorem dX3_parse_65 : decode cX3_parse 65 = .ok (.ireturn, 1) := by decide +kernel
theorem dX3_parse_66 : decode cX3_parse 66 = .ok (.aload_n 0, 1) := by decide +kernel
theorem dX3_parse_67 : decode cX3_parse 67 = .ok (.invokevirtual 26, 3) := by decide +kernel
theorem dX3_parse_70 : decode cX3_parse 70 = .ok (.aload_n 0, 1) := by decide +kernel
theorem dX3_parse_71 : decode cX3_parse 71 = .ok (.iconst (-1), 1) := by decide +kernel
theorem dX3_parse_72 : decode cX3_parse 72 = .ok (.putfield 46, 3) := by decide +kernel
theorem dX3_parse_75 : decode cX3_parse 75 = .ok (.aload_n 0, 1) := by decide +kernel
theorem dX3_parse_76 : decode cX3_parse 76 = .ok (.ldc 49, 2) := by decide +kernel
theorem dX3_parse_78 : decode cX3_parse 78 = .ok (.invokevirtual 51, 3) := by decide +kernel
theorem dX3_parse_81 : decode cX3_parse 81 = .ok (.ifCond .eq 40, 3) := by decide +kernel
theorem dX3_parse_84 : decode cX3_parse 84 = .ok (.aload_n 0, 1) := by decide +kernel
theorem dX3_parse_85 : decode cX3_parse 85 = .ok (.invokevirtual 26, 3) := by decide +kernel
theorem dX3_parse_88 : decode cX3_parse 88 = .ok (.aload_n 0, 1) := by decide +kernel
theorem dX3_parse_89 : decode cX3_parse 89 = .ok (.aload_n 0, 1) := by decide +kernel
theorem dX3_parse_90 : decode cX3_parse 90 = .ok (.iconst 1, 1) := by decide +kernel
theorem dX3_parse_91 : decode cX3_parse 91 = .ok (.invokevirtual 39, 3) := by decide +kernel
theorem dX3_parse_94 : decode cX3_parse 94 = .ok (.putfield 46, 3) := by decide +kernel
theorem dX3_parse_97 : decode cX3_parse 97 = .ok (.aload_n 0, 1) := by decide +kernel
theorem dX3_parse_98 : decode cX3_parse 98 = .ok (.getfield 46, 3) := by decide +kernel
theorem dX3_parse_101 : decode cX3_parse 101 = .ok (.ifCond .lt 11, 3) := by decide +kernel
theorem dX3_parse_104 : decode cX3_parse 104 = .ok (.aload_n 0, 1) := by decide +kernel
theorem dX3_parse_105 : decode cX3_parse 105 = .ok (.getfield 46, 3) := by decide +kernel
theorem dX3_parse_108 : decode cX3_parse 108 = .ok (.iconst 3, 1) := by decide +kernel
theorem dX3_parse_109 : decode cX3_parse 109 = .ok (.if_icmp .le 8, 3) := by decide +kernel
theorem dX3_parse_112 : decode cX3_parse 112 = .ok (.aload_n 0, 1) := by decide +kernel
theorem dX3_parse_113 : decode cX3_parse 113 = .ok (.getfield 36, 3) := by decide +kernel
theorem dX3_parse_116 : decode cX3_parse 116 = .ok (.ireturn, 1) := by decide +kernel
theorem dX3_parse_117 : decode cX3_parse 117 = .ok (.aload_n 0, 1) := by decide +kernel
theorem dX3_parse_118 : decode cX3_parse 118 = .ok (.invokevirtual 26, 3) := by decide +kernel
theorem dX3_parse_121 : decode cX3_parse 121 = .ok (.aload_n 0, 1) := by decide +kernel
theorem dX3_parse_122 : decode cX3_parse 122 = .ok (.ldc 55, 2) := by decide +kernel
theorem dX3_parse_124 : decode cX3_parse 124 = .ok (.invokevirtual 51, 3) := by decide +kernel
theorem dX3_parse_127 : decode cX3_parse 127 = .ok (.ifCond .ne 8, 3) := by decide +kernel
theorem dX3_parse_130 : decode cX3_parse 130 = .ok (.aload_n 0, 1) := by decide +kernel
theorem dX3_parse_131 : decode cX3_parse 131 = .ok (.getfield 36, 3) := by decide +kernel
theorem dX3_parse_134 : decode cX3_parse 134 = .ok (.ireturn, 1) := by decide +kernel
theorem dX3_parse_135 : decode cX3_parse 135 = .ok (.aload_n 0, 1) := by decide +kernel
theorem dX3_parse_136 : decode cX3_parse 136 = .ok (.invokevirtual 26, 3) := by decide +kernel
theorem dX3_parse_139 : decode cX3_parse 139 = .ok (.aload_n 0, 1) := by decide +kernel
theorem dX3_parse_140 : decode cX3_parse 140 = .ok (.aload_n 0, 1) := by decide +kernel
theorem dX3_parse_141 : decode cX3_parse 141 = .ok (.iconst 3, 1) := by decide +kernel
theorem dX3_parse_142 : decode cX3_parse 142 = .ok (.invokevirtual 39, 3) := by decide +kernel
theorem dX3_parse_145 : decode cX3_parse 145 = .ok (.putfield 57, 3) := by decide +kernel
theorem dX3_parse_148 : decode cX3_parse 148 = .ok (.aload_n 0, 1) := by decide +kernel
theorem dX3_parse_149 : decode cX3_parse 149 = .ok (.getfield 57, 3) := by decide +kernel
theorem dX3_parse_152 : decode cX3_parse 152 = .ok (.ifCond .lt 13, 3) := by decide +kernel
theorem dX3_parse_155 : decode cX3_parse 155 = .ok (.aload_n 0, 1) := by decide +kernel
theorem dX3_parse_156 : decode cX3_parse 156 = .ok (.getfield 57, 3) := by decide +kernel
theorem dX3_parse_159 : decode cX3_parse 159 = .ok (.sipush 200, 3) := by decide +kernel
theorem dX3_parse_162 : decode cX3_parse 162 = .ok (.if_icmp .le 8, 3) := by decide +kernel
theorem dX3_parse_165 : decode cX3_parse 165 = .ok (.aload_n 0, 1) := by decide +kernel
theorem dX3_parse_166 : decode cX3_parse 166 = .ok (.getfield 36, 3) := by decide +kernel
theorem dX3_parse_169 : decode cX3_parse 169 = .ok (.ireturn, 1) := by decide +kernel
theorem dX3_parse_170 : decode cX3_parse 170 = .ok (.aload_n 0, 1) := by decide +kernel
theorem dX3_parse_171 : decode cX3_parse 171 = .ok (.invokevirtual 26, 3) := by decide +kernel
theorem dX3_parse_174 : decode cX3_parse 174 = .ok (.aload_n 0, 1) := by decide +kernel
theorem dX3_parse_175 : decode cX3_parse 175 = .ok (.getfield 36, 3) := by decide +kernel
theorem dX3_parse_178 : decode cX3_parse 178 = .ok (.aload_n 0, 1) := by decide +kernel
theorem dX3_parse_179 : decode cX3_parse 179 = .ok (.getfield 23, 3) := by decide +kernel
theorem dX3_parse_182 : decode cX3_parse 182 = .ok (.if_icmp .ge 10, 3) := by decide +kernel
theorem dX3_parse_185 : decode cX3_parse 185 = .ok (.aload_n 0, 1) := by decide +kernel
theorem dX3_parse_186 : decode cX3_parse 186 = .ok (.getfield 36, 3) := by decide +kernel
theorem dX3_parse_189 : decode cX3_parse 189 = .ok (.goto 4, 3) := by decide +kernel
theorem dX3_parse_192 : decode cX3_parse 192 = .ok (.iconst (-1), 1) := by decide +kernel
theorem dX3_parse_193 : decode cX3_parse 193 = .ok (.ireturn, 1) := by decide +kernel
theorem dX3_nextWord_0 : decode cX3_nextWord 0 = .ok (.aload_n 0, 1) := by decide +kernel
theorem dX3_nextWord_1 : decode cX3_nextWord 1 = .ok (.aload_n 0, 1) := by decide +kernel
theorem dX3_nextWord_2 : decode cX3_nextWord 2 = .ok (.getfield 23, 3) := by decide +kernel
theorem dX3_nextWord_5 : decode cX3_nextWord 5 = .ok (.putfield 36, 3) := by decide +kernel
theorem dX3_nextWord_8 : decode cX3_nextWord 8 = .ok (.aload_n 0, 1) := by decide +kernel
theorem dX3_nextWord_9 : decode cX3_nextWord 9 = .ok (.getfield 36, 3) := by decide +kernel
theorem dX3_nextWord_12 : decode cX3_nextWord 12 = .ok (.aload_n 0, 1) := by decide +kernel
theorem dX3_nextWord_13 : decode cX3_nextWord 13 = .ok (.getfield 19, 3) := by decide +kernel
theorem dX3_nextWord_16 : decode cX3_nextWord 16 = .ok (.if_icmp .ge 29, 3) := by decide +kernel
theorem dX3_nextWord_19 : decode cX3_nextWord 19 = .ok (.aload_n 0, 1) := by decide +kernel
theorem dX3_nextWord_20 : decode cX3_nextWord 20 = .ok (.aload_n 0, 1) := by decide +kernel
theorem dX3_nextWord_21 : decode cX3_nextWord 21 = .ok (.getfield 36, 3) := by decide +kernel
theorem dX3_nextWord_24 : decode cX3_nextWord 24 = .ok (.invokevirtual 60, 3) := by decide +kernel
theorem dX3_nextWord_27 : decode cX3_nextWord 27 = .ok (.bipush 32, 2) := by decide +kernel
theorem dX3_nextWord_29 : decode cX3_nextWord 29 = .ok (.if_icmp .ne 16, 3) := by decide +kernel
theorem dX3_nextWord_32 : decode cX3_nextWord 32 = .ok (.aload_n 0, 1) := by decide +kernel
theorem dX3_nextWord_33 : decode cX3_nextWord 33 = .ok (.dup, 1) := by decide +kernel
theorem dX3_nextWord_34 : decode cX3_nextWord 34 = .ok (.getfield 36, 3) := by decide +kernel
theorem dX3_nextWord_37 : decode cX3_nextWord 37 = .ok (.iconst 1, 1) := by decide +kernel
theorem dX3_nextWord_38 : decode cX3_nextWord 38 = .ok (.iadd, 1) := by decide +kernel
theorem dX3_nextWord_39 : decode cX3_nextWord 39 = .ok (.putfield 36, 3) := by decide +kernel
theorem dX3_nextWord_42 : decode cX3_nextWord 42 = .ok (.goto (-34), 3) := by decide +kernel
theorem dX3_nextWord_45 : decode cX3_nextWord 45 = .ok (.aload_n 0, 1) := by decide +kernel
theorem dX3_nextWord_46 : decode cX3_nextWord 46 = .ok (.aload_n 0, 1) := by decide +kernel
theorem dX3_nextWord_47 : decode cX3_nextWord 47 = .ok (.getfield 36, 3) := by decide +kernel
theorem dX3_nextWord_50 : decode cX3_nextWord 50 = .ok (.putfield 23, 3) := by decide +kernel
theorem dX3_nextWord_53 : decode cX3_nextWord 53 = .ok (.aload_n 0, 1) := by decide +kernel
theorem dX3_nextWord_54 : decode cX3_nextWord 54 = .ok (.getfield 23, 3) := by decide +kernel
theorem dX3_nextWord_57 : decode cX3_nextWord 57 = .ok (.aload_n 0, 1) := by decide +kernel
theorem dX3_nextWord_58 : decode cX3_nextWord 58 = .ok (.getfield 19, 3) := by decide +kernel
theorem dX3_nextWord_61 : decode cX3_nextWord 61 = .ok (.if_icmp .ge 29, 3) := by decide +kernel
theorem dX3_nextWord_64 : decode cX3_nextWord 64 = .ok (.aload_n 0, 1) := by decide +kernel
theorem dX3_nextWord_65 : decode cX3_nextWord 65 = .ok (.aload_n 0, 1) := by decide +kernel
theorem dX3_nextWord_66 : decode cX3_nextWord 66 = .ok (.getfield 23, 3) := by decide +kernel
theorem dX3_nextWord_69 : decode cX3_nextWord 69 = .ok (.invokevirtual 60, 3) := by decide +kernel
theorem dX3_nextWord_72 : decode cX3_nextWord 72 = .ok (.bipush 32, 2) := by decide +kernel
theorem dX3_nextWord_74 : decode cX3_nextWord 74 = .ok (.if_icmp .eq 16, 3) := by decide +kernel
theorem dX3_nextWord_77 : decode cX3_nextWord 77 = .ok (.aload_n 0, 1) := by decide +kernel
theorem dX3_nextWord_78 : decode cX3_nextWord 78 = .ok (.dup, 1) := by decide +kernel
theorem dX3_nextWord_79 : decode cX3_nextWord 79 = .ok (.getfield 23, 3) := by decide +kernel
theorem dX3_nextWord_82 : decode cX3_nextWord 82 = .ok (.iconst 1, 1) := by decide +kernel
theorem dX3_nextWord_83 : decode cX3_nextWord 83 = .ok (.iadd, 1) := by decide +kernel
theorem dX3_nextWord_84 : decode cX3_nextWord 84 = .ok (.putfield 23, 3) := by decide +kernel
theorem dX3_nextWord_87 : decode cX3_nextWord 87 = .ok (.goto (-34), 3) := by decide +kernel
theorem dX3_nextWord_90 : decode cX3_nextWord 90 = .ok (.return_, 1) := by decide +kernel
theorem dX3_signAt_0 : decode cX3_signAt 0 = .ok (.iload_n 1, 1) := by decide +kernel
theorem dX3_signAt_1 : decode cX3_signAt 1 = .ok (.ifCond .lt 12, 3) := by decide +kernel
theorem dX3_signAt_4 : decode cX3_signAt 4 = .ok (.iload_n 1, 1) := by decide +kernel
theorem dX3_signAt_5 : decode cX3_signAt 5 = .ok (.aload_n 0, 1) := by decide +kernel
theorem dX3_signAt_6 : decode cX3_signAt 6 = .ok (.getfield 9, 3) := by decide +kernel
theorem dX3_signAt_9 : decode cX3_signAt 9 = .ok (.arraylength, 1) := by decide +kernel
theorem dX3_signAt_10 : decode cX3_signAt 10 = .ok (.if_icmp .lt 8, 3) := by decide +kernel
theorem dX3_signAt_13 : decode cX3_signAt 13 = .ok (.bipush 32, 2) := by decide +kernel
theorem dX3_signAt_15 : decode cX3_signAt 15 = .ok (.goto 9, 3) := by decide +kernel
theorem dX3_signAt_18 : decode cX3_signAt 18 = .ok (.aload_n 0, 1) := by decide +kernel
theorem dX3_signAt_19 : decode cX3_signAt 19 = .ok (.getfield 9, 3) := by decide +kernel
theorem dX3_signAt_22 : decode cX3_signAt 22 = .ok (.iload_n 1, 1) := by decide +kernel
theorem dX3_signAt_23 : decode cX3_signAt 23 = .ok (.caload, 1) := by decide +kernel
theorem dX3_signAt_24 : decode cX3_signAt 24 = .ok (.ireturn, 1) := by decide +kernel
theorem dX3_kindOfWord_0 : decode cX3_kindOfWord 0 = .ok (.aload_n 0, 1) := by decide +kernel
theorem dX3_kindOfWord_1 : decode cX3_kindOfWord 1 = .ok (.ldc 64, 2) := by decide +kernel
theorem dX3_kindOfWord_3 : decode cX3_kindOfWord 3 = .ok (.invokevirtual 51, 3) := by decide +kernel
theorem dX3_kindOfWord_6 : decode cX3_kindOfWord 6 = .ok (.ifCond .eq 5, 3) := by decide +kernel
theorem dX3_kindOfWord_9 : decode cX3_kindOfWord 9 = .ok (.iconst 0, 1) := by decide +kernel
theorem dX3_kindOfWord_10 : decode cX3_kindOfWord 10 = .ok (.ireturn, 1) := by decide +kernel
theorem dX3_kindOfWord_11 : decode cX3_kindOfWord 11 = .ok (.aload_n 0, 1) := by decide +kernel
theorem dX3_kindOfWord_12 : decode cX3_kindOfWord 12 = .ok (.ldc 66, 2) := by decide +kernel
theorem dX3_kindOfWord_14 : decode cX3_kindOfWord 14 = .ok (.invokevirtual 51, 3) := by decide +kernel
theorem dX3_kindOfWord_17 : decode cX3_kindOfWord 17 = .ok (.ifCond .eq 5, 3) := by decide +kernel
theorem dX3_kindOfWord_20 : decode cX3_kindOfWord 20 = .ok (.iconst 1, 1) := by decide +kernel
theorem dX3_kindOfWord_21 : decode cX3_kindOfWord 21 = .ok (.ireturn, 1) := by decide +kernel
theorem dX3_kindOfWord_22 : decode cX3_kindOfWord 22 = .ok (.aload_n 0, 1) := by decide +kernel
theorem dX3_kindOfWord_23 : decode cX3_kindOfWord 23 = .ok (.ldc 68, 2) := by decide +kernel
theorem dX3_kindOfWord_25 : decode cX3_kindOfWord 25 = .ok (.invokevirtual 51, 3) := by decide +kernel
theorem dX3_kindOfWord_28 : decode cX3_kindOfWord 28 = .ok (.ifCond .eq 5, 3) := by decide +kernel
theorem dX3_kindOfWord_31 : decode cX3_kindOfWord 31 = .ok (.iconst 2, 1) := by decide +kernel
theorem dX3_kindOfWord_32 : decode cX3_kindOfWord 32 = .ok (.ireturn, 1) := by decide +kernel
theorem dX3_kindOfWord_33 : decode cX3_kindOfWord 33 = .ok (.aload_n 0, 1) := by decide +kernel
theorem dX3_kindOfWord_34 : decode cX3_kindOfWord 34 = .ok (.ldc 70, 2) := by decide +kernel
theorem dX3_kindOfWord_36 : decode cX3_kindOfWord 36 = .ok (.invokevirtual 51, 3) := by decide +kernel
theorem dX3_kindOfWord_39 : decode cX3_kindOfWord 39 = .ok (.ifCond .eq 7, 3) := by decide +kernel
theorem dX3_kindOfWord_42 : decode cX3_kindOfWord 42 = .ok (.iconst 3, 1) := by decide +kernel
theorem dX3_kindOfWord_43 : decode cX3_kindOfWord 43 = .ok (.goto 4, 3) := by decide +kernel
theorem dX3_kindOfWord_46 : decode cX3_kindOfWord 46 = .ok (.iconst (-1), 1) := by decide +kernel
theorem dX3_kindOfWord_47 : decode cX3_kindOfWord 47 = .ok (.ireturn, 1) := by decide +kernel
theorem dX3_isWord_0 : decode cX3_isWord 0 = .ok (.aload_n 0, 1) := by decide +kernel
theorem dX3_isWord_1 : decode cX3_isWord 1 = .ok (.getfield 23, 3) := by decide +kernel
theorem dX3_isWord_4 : decode cX3_isWord 4 = .ok (.aload_n 0, 1) := by decide +kernel
theorem dX3_isWord_5 : decode cX3_isWord 5 = .ok (.getfield 36, 3) := by decide +kernel
theorem dX3_isWord_8 : decode cX3_isWord 8 = .ok (.isub, 1) := by decide +kernel
theorem dX3_isWord_9 : decode cX3_isWord 9 = .ok (.aload_n 1, 1) := by decide +kernel
theorem dX3_isWord_10 : decode cX3_isWord 10 = .ok (.invokevirtual 72, 3) := by decide +kernel
theorem dX3_isWord_13 : decode cX3_isWord 13 = .ok (.if_icmp .eq 5, 3) := by decide +kernel
theorem dX3_isWord_16 : decode cX3_isWord 16 = .ok (.iconst 0, 1) := by decide +kernel
theorem dX3_isWord_17 : decode cX3_isWord 17 = .ok (.ireturn, 1) := by decide +kernel
theorem dX3_isWord_18 : decode cX3_isWord 18 = .ok (.iconst 0, 1) := by decide +kernel
theorem dX3_isWord_19 : decode cX3_isWord 19 = .ok (.istore_n 2, 1) := by decide +kernel
theorem dX3_isWord_20 : decode cX3_isWord 20 = .ok (.iload_n 2, 1) := by decide +kernel
theorem dX3_isWord_21 : decode cX3_isWord 21 = .ok (.aload_n 1, 1) := by decide +kernel
theorem dX3_isWord_22 : decode cX3_isWord 22 = .ok (.invokevirtual 72, 3) := by decide +kernel
theorem dX3_isWord_25 : decode cX3_isWord 25 = .ok (.if_icmp .ge 29, 3) := by decide +kernel
theorem dX3_isWord_28 : decode cX3_isWord 28 = .ok (.aload_n 0, 1) := by decide +kernel
theorem dX3_isWord_29 : decode cX3_isWord 29 = .ok (.aload_n 0, 1) := by decide +kernel
theorem dX3_isWord_30 : decode cX3_isWord 30 = .ok (.getfield 36, 3) := by decide +kernel
theorem dX3_isWord_33 : decode cX3_isWord 33 = .ok (.iload_n 2, 1) := by decide +kernel
theorem dX3_isWord_34 : decode cX3_isWord 34 = .ok (.iadd, 1) := by decide +kernel
theorem dX3_isWord_35 : decode cX3_isWord 35 = .ok (.invokevirtual 60, 3) := by decide +kernel
theorem dX3_isWord_38 : decode cX3_isWord 38 = .ok (.aload_n 1, 1) := by decide +kernel
theorem dX3_isWord_39 : decode cX3_isWord 39 = .ok (.iload_n 2, 1) := by decide +kernel
theorem dX3_isWord_40 : decode cX3_isWord 40 = .ok (.invokevirtual 76, 3) := by decide +kernel
theorem dX3_isWord_43 : decode cX3_isWord 43 = .ok (.if_icmp .eq 5, 3) := by decide +kernel
theorem dX3_isWord_46 : decode cX3_isWord 46 = .ok (.iconst 0, 1) := by decide +kernel
theorem dX3_isWord_47 : decode cX3_isWord 47 = .ok (.ireturn, 1) := by decide +kernel
theorem dX3_isWord_48 : decode cX3_isWord 48 = .ok (.iinc 2 1, 3) := by decide +kernel
theorem dX3_isWord_51 : decode cX3_isWord 51 = .ok (.goto (-31), 3) := by decide +kernel
theorem dX3_isWord_54 : decode cX3_isWord 54 = .ok (.iconst 1, 1) := by decide +kernel
theorem dX3_isWord_55 : decode cX3_isWord 55 = .ok (.ireturn, 1) := by decide +kernel
theorem dX3_numberOfWord_0 : decode cX3_numberOfWord 0 = .ok (.aload_n 0, 1) := by decide +kernel
theorem dX3_numberOfWord_1 : decode cX3_numberOfWord 1 = .ok (.getfield 23, 3) := by decide +kernel
theorem dX3_numberOfWord_4 : decode cX3_numberOfWord 4 = .ok (.aload_n 0, 1) := by decide +kernel
theorem dX3_numberOfWord_5 : decode cX3_numberOfWord 5 = .ok (.getfield 36, 3) := by decide +kernel
theorem dX3_numberOfWord_8 : decode cX3_numberOfWord 8 = .ok (.isub, 1) := by decide +kernel
theorem dX3_numberOfWord_9 : decode cX3_numberOfWord 9 = .ok (.istore_n 2, 1) := by decide +kernel
theorem dX3_numberOfWord_10 : decode cX3_numberOfWord 10 = .ok (.iload_n 2, 1) := by decide +kernel
theorem dX3_numberOfWord_11 : decode cX3_numberOfWord 11 = .ok (.iconst 1, 1) := by decide +kernel
theorem dX3_numberOfWord_12 : decode cX3_numberOfWord 12 = .ok (.if_icmp .lt 8, 3) := by decide +kernel
theorem dX3_numberOfWord_15 : decode cX3_numberOfWord 15 = .ok (.iload_n 2, 1) := by decide +kernel
theorem dX3_numberOfWord_16 : decode cX3_numberOfWord 16 = .ok (.iload_n 1, 1) := by decide +kernel
theorem dX3_numberOfWord_17 : decode cX3_numberOfWord 17 = .ok (.if_icmp .le 5, 3) := by decide +kernel
theorem dX3_numberOfWord_20 : decode cX3_numberOfWord 20 = .ok (.iconst (-1), 1) := by decide +kernel
theorem dX3_numberOfWord_21 : decode cX3_numberOfWord 21 = .ok (.ireturn, 1) := by decide +kernel
theorem dX3_numberOfWord_22 : decode cX3_numberOfWord 22 = .ok (.iconst 0, 1) := by decide +kernel
theorem dX3_numberOfWord_23 : decode cX3_numberOfWord 23 = .ok (.istore_n 3, 1) := by decide +kernel
theorem dX3_numberOfWord_24 : decode cX3_numberOfWord 24 = .ok (.aload_n 0, 1) := by decide +kernel
theorem dX3_numberOfWord_25 : decode cX3_numberOfWord 25 = .ok (.getfield 36, 3) := by decide +kernel
theorem dX3_numberOfWord_28 : decode cX3_numberOfWord 28 = .ok (.istore 4, 2) := by decide +kernel
theorem dX3_numberOfWord_30 : decode cX3_numberOfWord 30 = .ok (.iload 4, 2) := by decide +kernel
theorem dX3_numberOfWord_32 : decode cX3_numberOfWord 32 = .ok (.aload_n 0, 1) := by decide +kernel
theorem dX3_numberOfWord_33 : decode cX3_numberOfWord 33 = .ok (.getfield 23, 3) := by decide +kernel
theorem dX3_numberOfWord_36 : decode cX3_numberOfWord 36 = .ok (.if_icmp .ge 38, 3) := by decide +kernel
theorem dX3_numberOfWord_39 : decode cX3_numberOfWord 39 = .ok (.aload_n 0, 1) := by decide +kernel
theorem dX3_numberOfWord_40 : decode cX3_numberOfWord 40 = .ok (.iload 4, 2) := by decide +kernel
theorem dX3_numberOfWord_42 : decode cX3_numberOfWord 42 = .ok (.invokevirtual 60, 3) := by decide +kernel
theorem dX3_numberOfWord_45 : decode cX3_numberOfWord 45 = .ok (.istore 5, 2) := by decide +kernel
theorem dX3_numberOfWord_47 : decode cX3_numberOfWord 47 = .ok (.iload 5, 2) := by decide +kernel
theorem dX3_numberOfWord_49 : decode cX3_numberOfWord 49 = .ok (.invokestatic 15, 3) := by decide +kernel
theorem dX3_numberOfWord_52 : decode cX3_numberOfWord 52 = .ok (.ifCond .ne 5, 3) := by decide +kernel
theorem dX3_numberOfWord_55 : decode cX3_numberOfWord 55 = .ok (.iconst (-1), 1) := by decide +kernel
theorem dX3_numberOfWord_56 : decode cX3_numberOfWord 56 = .ok (.ireturn, 1) := by decide +kernel
theorem dX3_numberOfWord_57 : decode cX3_numberOfWord 57 = .ok (.iload_n 3, 1) := by decide +kernel
theorem dX3_numberOfWord_58 : decode cX3_numberOfWord 58 = .ok (.bipush 10, 2) := by decide +kernel
theorem dX3_numberOfWord_60 : decode cX3_numberOfWord 60 = .ok (.imul, 1) := by decide +kernel
theorem dX3_numberOfWord_61 : decode cX3_numberOfWord 61 = .ok (.iload 5, 2) := by decide +kernel
theorem dX3_numberOfWord_63 : decode cX3_numberOfWord 63 = .ok (.bipush 48, 2) := by decide +kernel
theorem dX3_numberOfWord_65 : decode cX3_numberOfWord 65 = .ok (.isub, 1) := by decide +kernel
theorem dX3_numberOfWord_66 : decode cX3_numberOfWord 66 = .ok (.iadd, 1) := by decide +kernel
theorem dX3_numberOfWord_67 : decode cX3_numberOfWord 67 = .ok (.istore_n 3, 1) := by decide +kernel
theorem dX3_numberOfWord_68 : decode cX3_numberOfWord 68 = .ok (.iinc 4 1, 3) := by decide +kernel
theorem dX3_numberOfWord_71 : decode cX3_numberOfWord 71 = .ok (.goto (-41), 3) := by decide +kernel
theorem dX3_numberOfWord_74 : decode cX3_numberOfWord 74 = .ok (.iload_n 3, 1) := by decide +kernel
theorem dX3_numberOfWord_75 : decode cX3_numberOfWord 75 = .ok (.ireturn, 1) := by decide +kernel
theorem dX4_init_0 : decode cX4_init 0 = .ok (.aload_n 0, 1) := by decide +kernel
theorem dX4_init_1 : decode cX4_init 1 = .ok (.invokespecial 3, 3) := by decide +kernel
theorem dX4_init_4 : decode cX4_init 4 = .ok (.aload_n 0, 1) := by decide +kernel
theorem dX4_init_5 : decode cX4_init 5 = .ok (.iload_n 1, 1) := by decide +kernel
theorem dX4_init_6 : decode cX4_init 6 = .ok (.putfield 9, 3) := by decide +kernel
theorem dX4_init_9 : decode cX4_init 9 = .ok (.aload_n 0, 1) := by decide +kernel
theorem dX4_init_10 : decode cX4_init 10 = .ok (.iload 4, 2) := by decide +kernel
theorem dX4_init_12 : decode cX4_init 12 = .ok (.putfield 15, 3) := by decide +kernel
theorem dX4_init_15 : decode cX4_init 15 = .ok (.aload_n 0, 1) := by decide +kernel
theorem dX4_init_16 : decode cX4_init 16 = .ok (.iload_n 2, 1) := by decide +kernel
theorem dX4_init_17 : decode cX4_init 17 = .ok (.putfield 18, 3) := by decide +kernel
theorem dX4_init_20 : decode cX4_init 20 = .ok (.aload_n 0, 1) := by decide +kernel
theorem dX4_init_21 : decode cX4_init 21 = .ok (.iload_n 2, 1) := by decide +kernel
theorem dX4_init_22 : decode cX4_init 22 = .ok (.iload_n 3, 1) := by decide +kernel
theorem dX4_init_23 : decode cX4_init 23 = .ok (.iadd, 1) := by decide +kernel
theorem dX4_init_24 : decode cX4_init 24 = .ok (.putfield 21, 3) := by decide +kernel
theorem dX4_init_27 : decode cX4_init 27 = .ok (.aload_n 0, 1) := by decide +kernel
theorem dX4_init_28 : decode cX4_init 28 = .ok (.iload_n 2, 1) := by decide +kernel
theorem dX4_init_29 : decode cX4_init 29 = .ok (.putfield 24, 3) := by decide +kernel
theorem dX4_init_32 : decode cX4_init 32 = .ok (.aload_n 0, 1) := by decide +kernel
theorem dX4_init_33 : decode cX4_init 33 = .ok (.iload_n 2, 1) := by decide +kernel
theorem dX4_init_34 : decode cX4_init 34 = .ok (.iload_n 3, 1) := by decide +kernel
theorem dX4_init_35 : decode cX4_init 35 = .ok (.iadd, 1) := by decide +kernel
theorem dX4_init_36 : decode cX4_init 36 = .ok (.putfield 27, 3) := by decide +kernel
theorem dX4_init_39 : decode cX4_init 39 = .ok (.return_, 1) := by decide +kernel
theorem dX4_holderNumber_0 : decode cX4_holderNumber 0 = .ok (.aload_n 0, 1) := by decide +kernel
theorem dX4_holderNumber_1 : decode cX4_holderNumber 1 = .ok (.getfield 30, 3) := by decide +kernel
theorem dX4_holderNumber_4 : decode cX4_holderNumber 4 = .ok (.ifnonnull 7, 3) := by decide +kernel
theorem dX4_holderNumber_7 : decode cX4_holderNumber 7 = .ok (.iconst (-1), 1) := by decide +kernel
theorem dX4_holderNumber_8 : decode cX4_holderNumber 8 = .ok (.goto 10, 3) := by decide +kernel
theorem dX4_holderNumber_11 : decode cX4_holderNumber 11 = .ok (.aload_n 0, 1) := by decide +kernel
theorem dX4_holderNumber_12 : decode cX4_holderNumber 12 = .ok (.getfield 30, 3) := by decide +kernel
theorem dX4_holderNumber_15 : decode cX4_holderNumber 15 = .ok (.getfield 34, 3) := by decide +kernel
theorem dX4_holderNumber_18 : decode cX4_holderNumber 18 = .ok (.ireturn, 1) := by decide +kernel
theorem dX4_hours_0 : decode cX4_hours 0 = .ok (.aload_n 0, 1) := by decide +kernel
theorem dX4_hours_1 : decode cX4_hours 1 = .ok (.getfield 27, 3) := by decide +kernel
theorem dX4_hours_4 : decode cX4_hours 4 = .ok (.aload_n 0, 1) := by decide +kernel
theorem dX4_hours_5 : decode cX4_hours 5 = .ok (.getfield 24, 3) := by decide +kernel
theorem dX4_hours_8 : decode cX4_hours 8 = .ok (.isub, 1) := by decide +kernel
theorem dX4_hours_9 : decode cX4_hours 9 = .ok (.ireturn, 1) := by decide +kernel
theorem dX4_plannedHours_0 : decode cX4_plannedHours 0 = .ok (.aload_n 0, 1) := by decide +kernel
theorem dX4_plannedHours_1 : decode cX4_plannedHours 1 = .ok (.getfield 21, 3) := by decide +kernel
theorem dX4_plannedHours_4 : decode cX4_plannedHours 4 = .ok (.aload_n 0, 1) := by decide +kernel
theorem dX4_plannedHours_5 : decode cX4_plannedHours 5 = .ok (.getfield 18, 3) := by decide +kernel
theorem dX4_plannedHours_8 : decode cX4_plannedHours 8 = .ok (.isub, 1) := by decide +kernel
theorem dX4_plannedHours_9 : decode cX4_plannedHours 9 = .ok (.ireturn, 1) := by decide +kernel
theorem dX4_day_0 : decode cX4_day 0 = .ok (.aload_n 0, 1) := by decide +kernel
theorem dX4_day_1 : decode cX4_day 1 = .ok (.getfield 24, 3) := by decide +kernel
theorem dX4_day_4 : decode cX4_day 4 = .ok (.bipush 24, 2) := by decide +kernel
theorem dX4_day_6 : decode cX4_day 6 = .ok (.idiv, 1) := by decide +kernel
theorem dX4_day_7 : decode cX4_day 7 = .ok (.ireturn, 1) := by decide +kernel
theorem dX4_week_0 : decode cX4_week 0 = .ok (.aload_n 0, 1) := by decide +kernel
theorem dX4_week_1 : decode cX4_week 1 = .ok (.getfield 24, 3) := by decide +kernel
theorem dX4_week_4 : decode cX4_week 4 = .ok (.sipush 168, 3) := by decide +kernel
theorem dX4_week_7 : decode cX4_week 7 = .ok (.idiv, 1) := by decide +kernel
theorem dX4_week_8 : decode cX4_week 8 = .ok (.ireturn, 1) := by decide +kernel
theorem dX4_overlaps_0 : decode cX4_overlaps 0 = .ok (.aload_n 0, 1) := by decide +kernel
theorem dX4_overlaps_1 : decode cX4_overlaps 1 = .ok (.getfield 18, 3) := by decide +kernel
theorem dX4_overlaps_4 : decode cX4_overlaps 4 = .ok (.aload_n 1, 1) := by decide +kernel
theorem dX4_overlaps_5 : decode cX4_overlaps 5 = .ok (.getfield 21, 3) := by decide +kernel
theorem dX4_overlaps_8 : decode cX4_overlaps 8 = .ok (.if_icmp .ge 18, 3) := by decide +kernel
theorem dX4_overlaps_11 : decode cX4_overlaps 11 = .ok (.aload_n 1, 1) := by decide +kernel
theorem dX4_overlaps_12 : decode cX4_overlaps 12 = .ok (.getfield 18, 3) := by decide +kernel
theorem dX4_overlaps_15 : decode cX4_overlaps 15 = .ok (.aload_n 0, 1) := by decide +kernel
theorem dX4_overlaps_16 : decode cX4_overlaps 16 = .ok (.getfield 21, 3) := by decide +kernel
theorem dX4_overlaps_19 : decode cX4_overlaps 19 = .ok (.if_icmp .ge 7, 3) := by decide +kernel
theorem dX4_overlaps_22 : decode cX4_overlaps 22 = .ok (.iconst 1, 1) := by decide +kernel
theorem dX4_overlaps_23 : decode cX4_overlaps 23 = .ok (.goto 4, 3) := by decide +kernel
theorem dX4_overlaps_26 : decode cX4_overlaps 26 = .ok (.iconst 0, 1) := by decide +kernel
theorem dX4_overlaps_27 : decode cX4_overlaps 27 = .ok (.ireturn, 1) := by decide +kernel
theorem dX4_isAheadOf_0 : decode cX4_isAheadOf 0 = .ok (.aload_n 0, 1) := by decide +kernel
theorem dX4_isAheadOf_1 : decode cX4_isAheadOf 1 = .ok (.getfield 24, 3) := by decide +kernel
theorem dX4_isAheadOf_4 : decode cX4_isAheadOf 4 = .ok (.aload_n 1, 1) := by decide +kernel
theorem dX4_isAheadOf_5 : decode cX4_isAheadOf 5 = .ok (.getfield 24, 3) := by decide +kernel
theorem dX4_isAheadOf_8 : decode cX4_isAheadOf 8 = .ok (.if_icmp .lt 25, 3) := by decide +kernel
theorem dX4_isAheadOf_11 : decode cX4_isAheadOf 11 = .ok (.aload_n 0, 1) := by decide +kernel
theorem dX4_isAheadOf_12 : decode cX4_isAheadOf 12 = .ok (.getfield 24, 3) := by decide +kernel
theorem dX4_isAheadOf_15 : decode cX4_isAheadOf 15 = .ok (.aload_n 1, 1) := by decide +kernel
theorem dX4_isAheadOf_16 : decode cX4_isAheadOf 16 = .ok (.getfield 24, 3) := by decide +kernel
theorem dX4_isAheadOf_19 : decode cX4_isAheadOf 19 = .ok (.if_icmp .ne 18, 3) := by decide +kernel
theorem dX4_isAheadOf_22 : decode cX4_isAheadOf 22 = .ok (.aload_n 0, 1) := by decide +kernel
theorem dX4_isAheadOf_23 : decode cX4_isAheadOf 23 = .ok (.getfield 9, 3) := by decide +kernel
theorem dX4_isAheadOf_26 : decode cX4_isAheadOf 26 = .ok (.aload_n 1, 1) := by decide +kernel
theorem dX4_isAheadOf_27 : decode cX4_isAheadOf 27 = .ok (.getfield 9, 3) := by decide +kernel
theorem dX4_isAheadOf_30 : decode cX4_isAheadOf 30 = .ok (.if_icmp .ge 7, 3) := by decide +kernel
theorem dX4_isAheadOf_33 : decode cX4_isAheadOf 33 = .ok (.iconst 1, 1) := by decide +kernel
theorem dX4_isAheadOf_34 : decode cX4_isAheadOf 34 = .ok (.goto 4, 3) := by decide +kernel
theorem dX4_isAheadOf_37 : decode cX4_isAheadOf 37 = .ok (.iconst 0, 1) := by decide +kernel
theorem dX4_isAheadOf_38 : decode cX4_isAheadOf 38 = .ok (.ireturn, 1) := by decide +kernel
theorem dX4_claimOf_0 : decode cX4_claimOf 0 = .ok (.aload_n 0, 1) := by decide +kernel
theorem dX4_claimOf_1 : decode cX4_claimOf 1 = .ok (.getfield 37, 3) := by decide +kernel
theorem dX4_claimOf_4 : decode cX4_claimOf 4 = .ok (.astore_n 3, 1) := by decide +kernel
theorem dX4_claimOf_5 : decode cX4_claimOf 5 = .ok (.aload_n 3, 1) := by decide +kernel
theorem dX4_claimOf_6 : decode cX4_claimOf 6 = .ok (.ifnull 29, 3) := by decide +kernel
theorem dX4_claimOf_9 : decode cX4_claimOf 9 = .ok (.aload_n 3, 1) := by decide +kernel
theorem dX4_claimOf_10 : decode cX4_claimOf 10 = .ok (.getfield 41, 3) := by decide +kernel
theorem dX4_claimOf_13 : decode cX4_claimOf 13 = .ok (.aload_n 1, 1) := by decide +kernel
theorem dX4_claimOf_14 : decode cX4_claimOf 14 = .ok (.if_acmp .ne 13, 3) := by decide +kernel
theorem dX4_claimOf_17 : decode cX4_claimOf 17 = .ok (.aload_n 3, 1) := by decide +kernel
theorem dX4_claimOf_18 : decode cX4_claimOf 18 = .ok (.getfield 46, 3) := by decide +kernel
theorem dX4_claimOf_21 : decode cX4_claimOf 21 = .ok (.aload_n 2, 1) := by decide +kernel
theorem dX4_claimOf_22 : decode cX4_claimOf 22 = .ok (.if_acmp .ne 5, 3) := by decide +kernel
theorem dX4_claimOf_25 : decode cX4_claimOf 25 = .ok (.aload_n 3, 1) := by decide +kernel
theorem dX4_claimOf_26 : decode cX4_claimOf 26 = .ok (.areturn, 1) := by decide +kernel
theorem dX4_claimOf_27 : decode cX4_claimOf 27 = .ok (.aload_n 3, 1) := by decide +kernel
theorem dX4_claimOf_28 : decode cX4_claimOf 28 = .ok (.getfield 50, 3) := by decide +kernel
theorem dX4_claimOf_31 : decode cX4_claimOf 31 = .ok (.astore_n 3, 1) := by decide +kernel
theorem dX4_claimOf_32 : decode cX4_claimOf 32 = .ok (.goto (-27), 3) := by decide +kernel
theorem dX4_claimOf_35 : decode cX4_claimOf 35 = .ok (.aconst_null, 1) := by decide +kernel
theorem dX4_claimOf_36 : decode cX4_claimOf 36 = .ok (.areturn, 1) := by decide +kernel
theorem dX5_init_0 : decode cX5_init 0 = .ok (.aload_n 0, 1) := by decide +kernel
theorem dX5_init_1 : decode cX5_init 1 = .ok (.invokespecial 3, 3) := by decide +kernel
theorem dX5_init_4 : decode cX5_init 4 = .ok (.aload_n 0, 1) := by decide +kernel
theorem dX5_init_5 : decode cX5_init 5 = .ok (.bipush 40, 2) := by decide +kernel
theorem dX5_init_7 : decode cX5_init 7 = .ok (.anewarray 9, 3) := by decide +kernel
theorem dX5_init_10 : decode cX5_init 10 = .ok (.putfield 11, 3) := by decide +kernel
theorem dX5_init_13 : decode cX5_init 13 = .ok (.aload_n 0, 1) := by decide +kernel
theorem dX5_init_14 : decode cX5_init 14 = .ok (.bipush 10, 2) := by decide +kernel
theorem dX5_init_16 : decode cX5_init 16 = .ok (.putfield 17, 3) := by decide +kernel
theorem dX5_init_19 : decode cX5_init 19 = .ok (.aload_n 0, 1) := by decide +kernel
theorem dX5_init_20 : decode cX5_init 20 = .ok (.iload_n 1, 1) := by decide +kernel
theorem dX5_init_21 : decode cX5_init 21 = .ok (.putfield 21, 3) := by decide +kernel
theorem dX5_init_24 : decode cX5_init 24 = .ok (.return_, 1) := by decide +kernel
theorem dX5_add_0 : decode cX5_add 0 = .ok (.aload_n 1, 1) := by decide +kernel
theorem dX5_add_1 : decode cX5_add 1 = .ok (.astore_n 2, 1) := by decide +kernel
theorem dX5_add_2 : decode cX5_add 2 = .ok (.iconst 0, 1) := by decide +kernel
theorem dX5_add_3 : decode cX5_add 3 = .ok (.istore_n 3, 1) := by decide +kernel
theorem dX5_add_4 : decode cX5_add 4 = .ok (.iload_n 3, 1) := by decide +kernel
theorem dX5_add_5 : decode cX5_add 5 = .ok (.aload_n 0, 1) := by decide +kernel
theorem dX5_add_6 : decode cX5_add 6 = .ok (.getfield 11, 3) := by decide +kernel
theorem dX5_add_9 : decode cX5_add 9 = .ok (.arraylength, 1) := by decide +kernel
theorem dX5_add_10 : decode cX5_add 10 = .ok (.if_icmp .ge 45, 3) := by decide +kernel
theorem dX5_add_13 : decode cX5_add 13 = .ok (.aload_n 2, 1) := by decide +kernel
theorem dX5_add_14 : decode cX5_add 14 = .ok (.ifnull 41, 3) := by decide +kernel
theorem dX5_add_17 : decode cX5_add 17 = .ok (.aload_n 0, 1) := by decide +kernel
theorem dX5_add_18 : decode cX5_add 18 = .ok (.getfield 11, 3) := by decide +kernel
theorem dX5_add_21 : decode cX5_add 21 = .ok (.iload_n 3, 1) := by decide +kernel
theorem dX5_add_22 : decode cX5_add 22 = .ok (.aaload, 1) := by decide +kernel
theorem dX5_add_23 : decode cX5_add 23 = .ok (.astore 4, 2) := by decide +kernel
theorem dX5_add_25 : decode cX5_add 25 = .ok (.aload 4, 2) := by decide +kernel
theorem dX5_add_27 : decode cX5_add 27 = .ok (.ifnull 12, 3) := by decide +kernel
theorem dX5_add_30 : decode cX5_add 30 = .ok (.aload_n 2, 1) := by decide +kernel
theorem dX5_add_31 : decode cX5_add 31 = .ok (.aload 4, 2) := by decide +kernel
theorem dX5_add_33 : decode cX5_add 33 = .ok (.invokevirtual 24, 3) := by decide +kernel
theorem dX5_add_36 : decode cX5_add 36 = .ok (.ifCond .eq 13, 3) := by decide +kernel
theorem dX5_add_39 : decode cX5_add 39 = .ok (.aload_n 0, 1) := by decide +kernel
theorem dX5_add_40 : decode cX5_add 40 = .ok (.getfield 11, 3) := by decide +kernel
theorem dX5_add_43 : decode cX5_add 43 = .ok (.iload_n 3, 1) := by decide +kernel
theorem dX5_add_44 : decode cX5_add 44 = .ok (.aload_n 2, 1) := by decide +kernel
theorem dX5_add_45 : decode cX5_add 45 = .ok (.aastore, 1) := by decide +kernel
theorem dX5_add_46 : decode cX5_add 46 = .ok (.aload 4, 2) := by decide +kernel
theorem dX5_add_48 : decode cX5_add 48 = .ok (.astore_n 2, 1) := by decide +kernel
theorem dX5_add_49 : decode cX5_add 49 = .ok (.iinc 3 1, 3) := by decide +kernel
theorem dX5_add_52 : decode cX5_add 52 = .ok (.goto (-48), 3) := by decide +kernel
theorem dX5_add_55 : decode cX5_add 55 = .ok (.return_, 1) := by decide +kernel
theorem dX5_remove_0 : decode cX5_remove 0 = .ok (.iconst 0, 1) := by decide +kernel
theorem dX5_remove_1 : decode cX5_remove 1 = .ok (.istore_n 2, 1) := by decide +kernel
theorem dX5_remove_2 : decode cX5_remove 2 = .ok (.iconst 0, 1) := by decide +kernel
theorem dX5_remove_3 : decode cX5_remove 3 = .ok (.istore_n 3, 1) := by decide +kernel
theorem dX5_remove_4 : decode cX5_remove 4 = .ok (.iload_n 3, 1) := by decide +kernel
theorem dX5_remove_5 : decode cX5_remove 5 = .ok (.aload_n 0, 1) := by decide +kernel
theorem dX5_remove_6 : decode cX5_remove 6 = .ok (.getfield 11, 3) := by decide +kernel
theorem dX5_remove_9 : decode cX5_remove 9 = .ok (.arraylength, 1) := by decide +kernel
theorem dX5_remove_10 : decode cX5_remove 10 = .ok (.if_icmp .ge 46, 3) := by decide +kernel
theorem dX5_remove_13 : decode cX5_remove 13 = .ok (.iload_n 2, 1) := by decide +kernel
theorem dX5_remove_14 : decode cX5_remove 14 = .ok (.ifCond .ne 13, 3) := by decide +kernel
theorem dX5_remove_17 : decode cX5_remove 17 = .ok (.aload_n 0, 1) := by decide +kernel
theorem dX5_remove_18 : decode cX5_remove 18 = .ok (.getfield 11, 3) := by decide +kernel
theorem dX5_remove_21 : decode cX5_remove 21 = .ok (.iload_n 3, 1) := by decide +kernel
theorem dX5_remove_22 : decode cX5_remove 22 = .ok (.aaload, 1) := by decide +kernel
theorem dX5_remove_23 : decode cX5_remove 23 = .ok (.aload_n 1, 1) := by decide +kernel
theorem dX5_remove_24 : decode cX5_remove 24 = .ok (.if_acmp .ne 7, 3) := by decide +kernel
theorem dX5_remove_27 : decode cX5_remove 27 = .ok (.iconst 1, 1) := by decide +kernel
theorem dX5_remove_28 : decode cX5_remove 28 = .ok (.goto 4, 3) := by decide +kernel
theorem dX5_remove_31 : decode cX5_remove 31 = .ok (.iconst 0, 1) := by decide +kernel
theorem dX5_remove_32 : decode cX5_remove 32 = .ok (.istore_n 2, 1) := by decide +kernel
theorem dX5_remove_33 : decode cX5_remove 33 = .ok (.iload_n 2, 1) := by decide +kernel
theorem dX5_remove_34 : decode cX5_remove 34 = .ok (.ifCond .eq 16, 3) := by decide +kernel
theorem dX5_remove_37 : decode cX5_remove 37 = .ok (.aload_n 0, 1) := by decide +kernel
theorem dX5_remove_38 : decode cX5_remove 38 = .ok (.getfield 11, 3) := by decide +kernel
theorem dX5_remove_41 : decode cX5_remove 41 = .ok (.iload_n 3, 1) := by decide +kernel
theorem dX5_remove_42 : decode cX5_remove 42 = .ok (.aload_n 0, 1) := by decide +kernel
theorem dX5_remove_43 : decode cX5_remove 43 = .ok (.iload_n 3, 1) := by decide +kernel
theorem dX5_remove_44 : decode cX5_remove 44 = .ok (.iconst 1, 1) := by decide +kernel
theorem dX5_remove_45 : decode cX5_remove 45 = .ok (.iadd, 1) := by decide +kernel
theorem dX5_remove_46 : decode cX5_remove 46 = .ok (.invokevirtual 28, 3) := by decide +kernel
theorem dX5_remove_49 : decode cX5_remove 49 = .ok (.aastore, 1) := by decide +kernel
theorem dX5_remove_50 : decode cX5_remove 50 = .ok (.iinc 3 1, 3) := by decide +kernel
theorem dX5_remove_53 : decode cX5_remove 53 = .ok (.goto (-49), 3) := by decide +kernel
theorem dX5_remove_56 : decode cX5_remove 56 = .ok (.return_, 1) := by decide +kernel
theorem dX5_shiftAt_0 : decode cX5_shiftAt 0 = .ok (.iload_n 1, 1) := by decide +kernel
theorem dX5_shiftAt_1 : decode cX5_shiftAt 1 = .ok (.ifCond .lt 12, 3) := by decide +kernel
theorem dX5_shiftAt_4 : decode cX5_shiftAt 4 = .ok (.iload_n 1, 1) := by decide +kernel
theorem dX5_shiftAt_5 : decode cX5_shiftAt 5 = .ok (.aload_n 0, 1) := by decide +kernel
theorem dX5_shiftAt_6 : decode cX5_shiftAt 6 = .ok (.getfield 11, 3) := by decide +kernel
theorem dX5_shiftAt_9 : decode cX5_shiftAt 9 = .ok (.arraylength, 1) := by decide +kernel
theorem dX5_shiftAt_10 : decode cX5_shiftAt 10 = .ok (.if_icmp .lt 7, 3) := by decide +kernel
theorem dX5_shiftAt_13 : decode cX5_shiftAt 13 = .ok (.aconst_null, 1) := by decide +kernel
theorem dX5_shiftAt_14 : decode cX5_shiftAt 14 = .ok (.goto 9, 3) := by decide +kernel
theorem dX5_shiftAt_17 : decode cX5_shiftAt 17 = .ok (.aload_n 0, 1) := by decide +kernel
theorem dX5_shiftAt_18 : decode cX5_shiftAt 18 = .ok (.getfield 11, 3) := by decide +kernel
theorem dX5_shiftAt_21 : decode cX5_shiftAt 21 = .ok (.iload_n 1, 1) := by decide +kernel
theorem dX5_shiftAt_22 : decode cX5_shiftAt 22 = .ok (.aaload, 1) := by decide +kernel
theorem dX5_shiftAt_23 : decode cX5_shiftAt 23 = .ok (.areturn, 1) := by decide +kernel
theorem dX5_placeOf_0 : decode cX5_placeOf 0 = .ok (.iconst 0, 1) := by decide +kernel
theorem dX5_placeOf_1 : decode cX5_placeOf 1 = .ok (.istore_n 2, 1) := by decide +kernel
theorem dX5_placeOf_2 : decode cX5_placeOf 2 = .ok (.iload_n 2, 1) := by decide +kernel
theorem dX5_placeOf_3 : decode cX5_placeOf 3 = .ok (.aload_n 0, 1) := by decide +kernel
theorem dX5_placeOf_4 : decode cX5_placeOf 4 = .ok (.getfield 11, 3) := by decide +kernel
theorem dX5_placeOf_7 : decode cX5_placeOf 7 = .ok (.arraylength, 1) := by decide +kernel
theorem dX5_placeOf_8 : decode cX5_placeOf 8 = .ok (.if_icmp .ge 21, 3) := by decide +kernel
theorem dX5_placeOf_11 : decode cX5_placeOf 11 = .ok (.aload_n 0, 1) := by decide +kernel
theorem dX5_placeOf_12 : decode cX5_placeOf 12 = .ok (.getfield 11, 3) := by decide +kernel
theorem dX5_placeOf_15 : decode cX5_placeOf 15 = .ok (.iload_n 2, 1) := by decide +kernel
theorem dX5_placeOf_16 : decode cX5_placeOf 16 = .ok (.aaload, 1) := by decide +kernel
theorem dX5_placeOf_17 : decode cX5_placeOf 17 = .ok (.aload_n 1, 1) := by decide +kernel
theorem dX5_placeOf_18 : decode cX5_placeOf 18 = .ok (.if_acmp .ne 5, 3) := by decide +kernel
theorem dX5_placeOf_21 : decode cX5_placeOf 21 = .ok (.iload_n 2, 1) := by decide +kernel
theorem dX5_placeOf_22 : decode cX5_placeOf 22 = .ok (.ireturn, 1) := by decide +kernel
theorem dX5_placeOf_23 : decode cX5_placeOf 23 = .ok (.iinc 2 1, 3) := by decide +kernel
theorem dX5_placeOf_26 : decode cX5_placeOf 26 = .ok (.goto (-24), 3) := by decide +kernel
theorem dX5_placeOf_29 : decode cX5_placeOf 29 = .ok (.iconst (-1), 1) := by decide +kernel
theorem dX5_placeOf_30 : decode cX5_placeOf 30 = .ok (.ireturn, 1) := by decide +kernel
theorem dX5_canTake_0 : decode cX5_canTake 0 = .ok (.aload_n 0, 1) := by decide +kernel
theorem dX5_canTake_1 : decode cX5_canTake 1 = .ok (.getfield 32, 3) := by decide +kernel
theorem dX5_canTake_4 : decode cX5_canTake 4 = .ok (.aload_n 1, 1) := by decide +kernel
theorem dX5_canTake_5 : decode cX5_canTake 5 = .ok (.getfield 35, 3) := by decide +kernel
theorem dX5_canTake_8 : decode cX5_canTake 8 = .ok (.ishr, 1) := by decide +kernel
theorem dX5_canTake_9 : decode cX5_canTake 9 = .ok (.iconst 1, 1) := by decide +kernel
theorem dX5_canTake_10 : decode cX5_canTake 10 = .ok (.iand, 1) := by decide +kernel
theorem dX5_canTake_11 : decode cX5_canTake 11 = .ok (.ifCond .ne 5, 3) := by decide +kernel
theorem dX5_canTake_14 : decode cX5_canTake 14 = .ok (.iconst 0, 1) := by decide +kernel
theorem dX5_canTake_15 : decode cX5_canTake 15 = .ok (.ireturn, 1) := by decide +kernel
theorem dX5_canTake_16 : decode cX5_canTake 16 = .ok (.aload_n 0, 1) := by decide +kernel
theorem dX5_canTake_17 : decode cX5_canTake 17 = .ok (.getfield 11, 3) := by decide +kernel
theorem dX5_canTake_20 : decode cX5_canTake 20 = .ok (.astore_n 3, 1) := by decide +kernel
theorem dX5_canTake_21 : decode cX5_canTake 21 = .ok (.aload_n 3, 1) := by decide +kernel
theorem dX5_canTake_22 : decode cX5_canTake 22 = .ok (.arraylength, 1) := by decide +kernel
theorem dX5_canTake_23 : decode cX5_canTake 23 = .ok (.istore 4, 2) := by decide +kernel
theorem dX5_canTake_25 : decode cX5_canTake 25 = .ok (.iconst 0, 1) := by decide +kernel
theorem dX5_canTake_26 : decode cX5_canTake 26 = .ok (.istore 5, 2) := by decide +kernel
theorem dX5_canTake_28 : decode cX5_canTake 28 = .ok (.iload 5, 2) := by decide +kernel
theorem dX5_canTake_30 : decode cX5_canTake 30 = .ok (.iload 4, 2) := by decide +kernel
theorem dX5_canTake_32 : decode cX5_canTake 32 = .ok (.if_icmp .ge 43, 3) := by decide +kernel
theorem dX5_canTake_35 : decode cX5_canTake 35 = .ok (.aload_n 3, 1) := by decide +kernel
theorem dX5_canTake_36 : decode cX5_canTake 36 = .ok (.iload 5, 2) := by decide +kernel
theorem dX5_canTake_38 : decode cX5_canTake 38 = .ok (.aaload, 1) := by decide +kernel
theorem dX5_canTake_39 : decode cX5_canTake 39 = .ok (.astore 6, 2) := by decide +kernel
theorem dX5_canTake_41 : decode cX5_canTake 41 = .ok (.aload 6, 2) := by decide +kernel
theorem dX5_canTake_43 : decode cX5_canTake 43 = .ok (.ifnull 26, 3) := by decide +kernel
theorem dX5_canTake_46 : decode cX5_canTake 46 = .ok (.aload 6, 2) := by decide +kernel
theorem dX5_canTake_48 : decode cX5_canTake 48 = .ok (.aload_n 1, 1) := by decide +kernel
theorem dX5_canTake_49 : decode cX5_canTake 49 = .ok (.if_acmp .eq 20, 3) := by decide +kernel
theorem dX5_canTake_52 : decode cX5_canTake 52 = .ok (.aload 6, 2) := by decide +kernel
theorem dX5_canTake_54 : decode cX5_canTake 54 = .ok (.aload_n 2, 1) := by decide +kernel
theorem dX5_canTake_55 : decode cX5_canTake 55 = .ok (.if_acmp .eq 14, 3) := by decide +kernel
theorem dX5_canTake_58 : decode cX5_canTake 58 = .ok (.aload 6, 2) := by decide +kernel
theorem dX5_canTake_60 : decode cX5_canTake 60 = .ok (.aload_n 1, 1) := by decide +kernel
theorem dX5_canTake_61 : decode cX5_canTake 61 = .ok (.invokevirtual 38, 3) := by decide +kernel
theorem dX5_canTake_64 : decode cX5_canTake 64 = .ok (.ifCond .eq 5, 3) := by decide +kernel
theorem dX5_canTake_67 : decode cX5_canTake 67 = .ok (.iconst 0, 1) := by decide +kernel
theorem dX5_canTake_68 : decode cX5_canTake 68 = .ok (.ireturn, 1) := by decide +kernel
theorem dX5_canTake_69 : decode cX5_canTake 69 = .ok (.iinc 5 1, 3) := by decide +kernel
theorem dX5_canTake_72 : decode cX5_canTake 72 = .ok (.goto (-44), 3) := by decide +kernel
theorem dX5_canTake_75 : decode cX5_canTake 75 = .ok (.iconst 1, 1) := by decide +kernel
theorem dX5_canTake_76 : decode cX5_canTake 76 = .ok (.ireturn, 1) := by decide +kernel
theorem dX5_restAhead_0 : decode cX5_restAhead 0 = .ok (.aload_n 0, 1) := by decide +kernel
theorem dX5_restAhead_1 : decode cX5_restAhead 1 = .ok (.aload_n 0, 1) := by decide +kernel
theorem dX5_restAhead_2 : decode cX5_restAhead 2 = .ok (.aload_n 1, 1) := by decide +kernel
theorem dX5_restAhead_3 : decode cX5_restAhead 3 = .ok (.invokevirtual 41, 3) := by decide +kernel
theorem dX5_restAhead_6 : decode cX5_restAhead 6 = .ok (.iconst 1, 1) := by decide +kernel
theorem dX5_restAhead_7 : decode cX5_restAhead 7 = .ok (.isub, 1) := by decide +kernel
theorem dX5_restAhead_8 : decode cX5_restAhead 8 = .ok (.invokevirtual 28, 3) := by decide +kernel
theorem dX5_restAhead_11 : decode cX5_restAhead 11 = .ok (.astore_n 2, 1) := by decide +kernel
theorem dX5_restAhead_12 : decode cX5_restAhead 12 = .ok (.aload_n 2, 1) := by decide +kernel
theorem dX5_restAhead_13 : decode cX5_restAhead 13 = .ok (.ifnonnull 9, 3) := by decide +kernel
theorem dX5_restAhead_16 : decode cX5_restAhead 16 = .ok (.sipush 10000, 3) := by decide +kernel
theorem dX5_restAhead_19 : decode cX5_restAhead 19 = .ok (.goto 12, 3) := by decide +kernel
theorem dX5_restAhead_22 : decode cX5_restAhead 22 = .ok (.aload_n 1, 1) := by decide +kernel
theorem dX5_restAhead_23 : decode cX5_restAhead 23 = .ok (.getfield 45, 3) := by decide +kernel
theorem dX5_restAhead_26 : decode cX5_restAhead 26 = .ok (.aload_n 2, 1) := by decide +kernel
theorem dX5_restAhead_27 : decode cX5_restAhead 27 = .ok (.getfield 48, 3) := by decide +kernel
theorem dX5_restAhead_30 : decode cX5_restAhead 30 = .ok (.isub, 1) := by decide +kernel
theorem dX5_restAhead_31 : decode cX5_restAhead 31 = .ok (.ireturn, 1) := by decide +kernel
theorem dX5_weekHours_0 : decode cX5_weekHours 0 = .ok (.iconst 0, 1) := by decide +kernel
theorem dX5_weekHours_1 : decode cX5_weekHours 1 = .ok (.istore_n 2, 1) := by decide +kernel
theorem dX5_weekHours_2 : decode cX5_weekHours 2 = .ok (.aload_n 0, 1) := by decide +kernel
theorem dX5_weekHours_3 : decode cX5_weekHours 3 = .ok (.aload_n 1, 1) := by decide +kernel
theorem dX5_weekHours_4 : decode cX5_weekHours 4 = .ok (.invokevirtual 41, 3) := by decide +kernel
theorem dX5_weekHours_7 : decode cX5_weekHours 7 = .ok (.istore_n 3, 1) := by decide +kernel
theorem dX5_weekHours_8 : decode cX5_weekHours 8 = .ok (.iload_n 3, 1) := by decide +kernel
theorem dX5_weekHours_9 : decode cX5_weekHours 9 = .ok (.ifCond .lt 44, 3) := by decide +kernel
theorem dX5_weekHours_12 : decode cX5_weekHours 12 = .ok (.aload_n 0, 1) := by decide +kernel
theorem dX5_weekHours_13 : decode cX5_weekHours 13 = .ok (.iload_n 3, 1) := by decide +kernel
theorem dX5_weekHours_14 : decode cX5_weekHours 14 = .ok (.invokevirtual 28, 3) := by decide +kernel
theorem dX5_weekHours_17 : decode cX5_weekHours 17 = .ok (.astore 4, 2) := by decide +kernel
theorem dX5_weekHours_19 : decode cX5_weekHours 19 = .ok (.aload 4, 2) := by decide +kernel
theorem dX5_weekHours_21 : decode cX5_weekHours 21 = .ok (.ifnull 32, 3) := by decide +kernel
theorem dX5_weekHours_24 : decode cX5_weekHours 24 = .ok (.aload 4, 2) := by decide +kernel
theorem dX5_weekHours_26 : decode cX5_weekHours 26 = .ok (.invokevirtual 51, 3) := by decide +kernel
theorem dX5_weekHours_29 : decode cX5_weekHours 29 = .ok (.aload_n 1, 1) := by decide +kernel
theorem dX5_weekHours_30 : decode cX5_weekHours 30 = .ok (.invokevirtual 51, 3) := by decide +kernel
theorem dX5_weekHours_33 : decode cX5_weekHours 33 = .ok (.if_icmp .eq 6, 3) := by decide +kernel
theorem dX5_weekHours_36 : decode cX5_weekHours 36 = .ok (.goto 17, 3) := by decide +kernel
theorem dX5_weekHours_39 : decode cX5_weekHours 39 = .ok (.iload_n 2, 1) := by decide +kernel
theorem dX5_weekHours_40 : decode cX5_weekHours 40 = .ok (.aload 4, 2) := by decide +kernel
theorem dX5_weekHours_42 : decode cX5_weekHours 42 = .ok (.invokevirtual 55, 3) := by decide +kernel
theorem dX5_weekHours_45 : decode cX5_weekHours 45 = .ok (.iadd, 1) := by decide +kernel
theorem dX5_weekHours_46 : decode cX5_weekHours 46 = .ok (.istore_n 2, 1) := by decide +kernel
theorem dX5_weekHours_47 : decode cX5_weekHours 47 = .ok (.iinc 3 (-1), 3) := by decide +kernel
theorem dX5_weekHours_50 : decode cX5_weekHours 50 = .ok (.goto (-42), 3) := by decide +kernel
theorem dX5_weekHours_53 : decode cX5_weekHours 53 = .ok (.iload_n 2, 1) := by decide +kernel
theorem dX5_weekHours_54 : decode cX5_weekHours 54 = .ok (.ireturn, 1) := by decide +kernel
theorem dX5_daysAhead_0 : decode cX5_daysAhead 0 = .ok (.aload_n 1, 1) := by decide +kernel
theorem dX5_daysAhead_1 : decode cX5_daysAhead 1 = .ok (.invokevirtual 58, 3) := by decide +kernel
theorem dX5_daysAhead_4 : decode cX5_daysAhead 4 = .ok (.istore_n 2, 1) := by decide +kernel
theorem dX5_daysAhead_5 : decode cX5_daysAhead 5 = .ok (.aload_n 0, 1) := by decide +kernel
theorem dX5_daysAhead_6 : decode cX5_daysAhead 6 = .ok (.aload_n 1, 1) := by decide +kernel
theorem dX5_daysAhead_7 : decode cX5_daysAhead 7 = .ok (.invokevirtual 41, 3) := by decide +kernel
theorem dX5_daysAhead_10 : decode cX5_daysAhead 10 = .ok (.iconst 1, 1) := by decide +kernel
theorem dX5_daysAhead_11 : decode cX5_daysAhead 11 = .ok (.isub, 1) := by decide +kernel
theorem dX5_daysAhead_12 : decode cX5_daysAhead 12 = .ok (.istore_n 3, 1) := by decide +kernel
theorem dX5_daysAhead_13 : decode cX5_daysAhead 13 = .ok (.iload_n 3, 1) := by decide +kernel
theorem dX5_daysAhead_14 : decode cX5_daysAhead 14 = .ok (.ifCond .lt 41, 3) := by decide +kernel
theorem dX5_daysAhead_17 : decode cX5_daysAhead 17 = .ok (.aload_n 0, 1) := by decide +kernel
theorem dX5_daysAhead_18 : decode cX5_daysAhead 18 = .ok (.iload_n 3, 1) := by decide +kernel
theorem dX5_daysAhead_19 : decode cX5_daysAhead 19 = .ok (.invokevirtual 28, 3) := by decide +kernel
theorem dX5_daysAhead_22 : decode cX5_daysAhead 22 = .ok (.astore 4, 2) := by decide +kernel
theorem dX5_daysAhead_24 : decode cX5_daysAhead 24 = .ok (.aload 4, 2) := by decide +kernel
theorem dX5_daysAhead_26 : decode cX5_daysAhead 26 = .ok (.ifnull 29, 3) := by decide +kernel
theorem dX5_daysAhead_29 : decode cX5_daysAhead 29 = .ok (.aload 4, 2) := by decide +kernel
theorem dX5_daysAhead_31 : decode cX5_daysAhead 31 = .ok (.invokevirtual 58, 3) := by decide +kernel
theorem dX5_daysAhead_34 : decode cX5_daysAhead 34 = .ok (.iload_n 2, 1) := by decide +kernel
theorem dX5_daysAhead_35 : decode cX5_daysAhead 35 = .ok (.iconst 1, 1) := by decide +kernel
theorem dX5_daysAhead_36 : decode cX5_daysAhead 36 = .ok (.isub, 1) := by decide +kernel
theorem dX5_daysAhead_37 : decode cX5_daysAhead 37 = .ok (.if_icmp .ge 6, 3) := by decide +kernel
theorem dX5_daysAhead_40 : decode cX5_daysAhead 40 = .ok (.goto 15, 3) := by decide +kernel
theorem dX5_daysAhead_43 : decode cX5_daysAhead 43 = .ok (.aload 4, 2) := by decide +kernel
theorem dX5_daysAhead_45 : decode cX5_daysAhead 45 = .ok (.invokevirtual 58, 3) := by decide +kernel
theorem dX5_daysAhead_48 : decode cX5_daysAhead 48 = .ok (.istore_n 2, 1) := by decide +kernel
theorem dX5_daysAhead_49 : decode cX5_daysAhead 49 = .ok (.iinc 3 (-1), 3) := by decide +kernel
theorem dX5_daysAhead_52 : decode cX5_daysAhead 52 = .ok (.goto (-39), 3) := by decide +kernel
theorem dX5_daysAhead_55 : decode cX5_daysAhead 55 = .ok (.aload_n 1, 1) := by decide +kernel
theorem dX5_daysAhead_56 : decode cX5_daysAhead 56 = .ok (.invokevirtual 58, 3) := by decide +kernel
theorem dX5_daysAhead_59 : decode cX5_daysAhead 59 = .ok (.iload_n 2, 1) := by decide +kernel
theorem dX5_daysAhead_60 : decode cX5_daysAhead 60 = .ok (.isub, 1) := by decide +kernel
theorem dX5_daysAhead_61 : decode cX5_daysAhead 61 = .ok (.ireturn, 1) := by decide +kernel
theorem dX5_hoursEndedBy_0 : decode cX5_hoursEndedBy 0 = .ok (.iconst 0, 1) := by decide +kernel
theorem dX5_hoursEndedBy_1 : decode cX5_hoursEndedBy 1 = .ok (.istore_n 2, 1) := by decide +kernel
theorem dX5_hoursEndedBy_2 : decode cX5_hoursEndedBy 2 = .ok (.aload_n 0, 1) := by decide +kernel
theorem dX5_hoursEndedBy_3 : decode cX5_hoursEndedBy 3 = .ok (.getfield 11, 3) := by decide +kernel
theorem dX5_hoursEndedBy_6 : decode cX5_hoursEndedBy 6 = .ok (.astore_n 3, 1) := by decide +kernel
theorem dX5_hoursEndedBy_7 : decode cX5_hoursEndedBy 7 = .ok (.aload_n 3, 1) := by decide +kernel
theorem dX5_hoursEndedBy_8 : decode cX5_hoursEndedBy 8 = .ok (.arraylength, 1) := by decide +kernel
theorem dX5_hoursEndedBy_9 : decode cX5_hoursEndedBy 9 = .ok (.istore 4, 2) := by decide +kernel
theorem dX5_hoursEndedBy_11 : decode cX5_hoursEndedBy 11 = .ok (.iconst 0, 1) := by decide +kernel
theorem dX5_hoursEndedBy_12 : decode cX5_hoursEndedBy 12 = .ok (.istore 5, 2) := by decide +kernel
theorem dX5_hoursEndedBy_14 : decode cX5_hoursEndedBy 14 = .ok (.iload 5, 2) := by decide +kernel
theorem dX5_hoursEndedBy_16 : decode cX5_hoursEndedBy 16 = .ok (.iload 4, 2) := by decide +kernel
theorem dX5_hoursEndedBy_18 : decode cX5_hoursEndedBy 18 = .ok (.if_icmp .ge 37, 3) := by decide +kernel
theorem dX5_hoursEndedBy_21 : decode cX5_hoursEndedBy 21 = .ok (.aload_n 3, 1) := by decide +kernel
theorem dX5_hoursEndedBy_22 : decode cX5_hoursEndedBy 22 = .ok (.iload 5, 2) := by decide +kernel
theorem dX5_hoursEndedBy_24 : decode cX5_hoursEndedBy 24 = .ok (.aaload, 1) := by decide +kernel
theorem dX5_hoursEndedBy_25 : decode cX5_hoursEndedBy 25 = .ok (.astore 6, 2) := by decide +kernel
theorem dX5_hoursEndedBy_27 : decode cX5_hoursEndedBy 27 = .ok (.aload 6, 2) := by decide +kernel
theorem dX5_hoursEndedBy_29 : decode cX5_hoursEndedBy 29 = .ok (.ifnull 20, 3) := by decide +kernel
theorem dX5_hoursEndedBy_32 : decode cX5_hoursEndedBy 32 = .ok (.aload 6, 2) := by decide +kernel
theorem dX5_hoursEndedBy_34 : decode cX5_hoursEndedBy 34 = .ok (.getfield 48, 3) := by decide +kernel
theorem dX5_hoursEndedBy_37 : decode cX5_hoursEndedBy 37 = .ok (.iload_n 1, 1) := by decide +kernel
theorem dX5_hoursEndedBy_38 : decode cX5_hoursEndedBy 38 = .ok (.if_icmp .gt 11, 3) := by decide +kernel
theorem dX5_hoursEndedBy_41 : decode cX5_hoursEndedBy 41 = .ok (.iload_n 2, 1) := by decide +kernel
theorem dX5_hoursEndedBy_42 : decode cX5_hoursEndedBy 42 = .ok (.aload 6, 2) := by decide +kernel
theorem dX5_hoursEndedBy_44 : decode cX5_hoursEndedBy 44 = .ok (.invokevirtual 55, 3) := by decide +kernel
theorem dX5_hoursEndedBy_47 : decode cX5_hoursEndedBy 47 = .ok (.iadd, 1) := by decide +kernel
theorem dX5_hoursEndedBy_48 : decode cX5_hoursEndedBy 48 = .ok (.istore_n 2, 1) := by decide +kernel
theorem dX5_hoursEndedBy_49 : decode cX5_hoursEndedBy 49 = .ok (.iinc 5 1, 3) := by decide +kernel
theorem dX5_hoursEndedBy_52 : decode cX5_hoursEndedBy 52 = .ok (.goto (-38), 3) := by decide +kernel
theorem dX5_hoursEndedBy_55 : decode cX5_hoursEndedBy 55 = .ok (.iload_n 2, 1) := by decide +kernel
theorem dX5_hoursEndedBy_56 : decode cX5_hoursEndedBy 56 = .ok (.ireturn, 1) := by decide +kernel
theorem dX6_init_0 : decode cX6_init 0 = .ok (.aload_n 0, 1) := by decide +kernel
theorem dX6_init_1 : decode cX6_init 1 = .ok (.invokespecial 1, 3) := by decide +kernel
theorem dX6_init_4 : decode cX6_init 4 = .ok (.aload_n 0, 1) := by decide +kernel
theorem dX6_init_5 : decode cX6_init 5 = .ok (.bipush 8, 2) := by decide +kernel
theorem dX6_init_7 : decode cX6_init 7 = .ok (.anewarray 9, 3) := by decide +kernel
theorem dX6_init_10 : decode cX6_init 10 = .ok (.putfield 11, 3) := by decide +kernel
theorem dX6_init_13 : decode cX6_init 13 = .ok (.aload_n 0, 1) := by decide +kernel
theorem dX6_init_14 : decode cX6_init 14 = .ok (.bipush 40, 2) := by decide +kernel
theorem dX6_init_16 : decode cX6_init 16 = .ok (.anewarray 15, 3) := by decide +kernel
theorem dX6_init_19 : decode cX6_init 19 = .ok (.putfield 17, 3) := by decide +kernel
theorem dX6_init_22 : decode cX6_init 22 = .ok (.aload_n 0, 1) := by decide +kernel
theorem dX6_init_23 : decode cX6_init 23 = .ok (.bipush 12, 2) := by decide +kernel
theorem dX6_init_25 : decode cX6_init 25 = .ok (.anewarray 21, 3) := by decide +kernel
theorem dX6_init_28 : decode cX6_init 28 = .ok (.putfield 23, 3) := by decide +kernel
theorem dX6_init_31 : decode cX6_init 31 = .ok (.aload_n 0, 1) := by decide +kernel
theorem dX6_init_32 : decode cX6_init 32 = .ok (.sipush 200, 3) := by decide +kernel
theorem dX6_init_35 : decode cX6_init 35 = .ok (.anewarray 27, 3) := by decide +kernel
theorem dX6_init_38 : decode cX6_init 38 = .ok (.putfield 29, 3) := by decide +kernel
theorem dX6_init_41 : decode cX6_init 41 = .ok (.aload_n 0, 1) := by decide +kernel
theorem dX6_init_42 : decode cX6_init 42 = .ok (.bipush 40, 2) := by decide +kernel
theorem dX6_init_44 : decode cX6_init 44 = .ok (.anewarray 33, 3) := by decide +kernel
theorem dX6_init_47 : decode cX6_init 47 = .ok (.putfield 35, 3) := by decide +kernel
theorem dX6_init_50 : decode cX6_init 50 = .ok (.aload_n 0, 1) := by decide +kernel
theorem dX6_init_51 : decode cX6_init 51 = .ok (.bipush 8, 2) := by decide +kernel
theorem dX6_init_53 : decode cX6_init 53 = .ok (.anewarray 33, 3) := by decide +kernel
theorem dX6_init_56 : decode cX6_init 56 = .ok (.putfield 39, 3) := by decide +kernel
theorem dX6_init_59 : decode cX6_init 59 = .ok (.aload_n 0, 1) := by decide +kernel
theorem dX6_init_60 : decode cX6_init 60 = .ok (.new 42, 3) := by decide +kernel
theorem dX6_init_63 : decode cX6_init 63 = .ok (.dup, 1) := by decide +kernel
theorem dX6_init_64 : decode cX6_init 64 = .ok (.invokespecial 44, 3) := by decide +kernel
theorem dX6_init_67 : decode cX6_init 67 = .ok (.putfield 45, 3) := by decide +kernel
theorem dX6_init_70 : decode cX6_init 70 = .ok (.iconst 0, 1) := by decide +kernel
theorem dX6_init_71 : decode cX6_init 71 = .ok (.istore_n 1, 1) := by decide +kernel
theorem dX6_init_72 : decode cX6_init 72 = .ok (.iload_n 1, 1) := by decide +kernel
theorem dX6_init_73 : decode cX6_init 73 = .ok (.aload_n 0, 1) := by decide +kernel
theorem dX6_init_74 : decode cX6_init 74 = .ok (.getfield 11, 3) := by decide +kernel
theorem dX6_init_77 : decode cX6_init 77 = .ok (.arraylength, 1) := by decide +kernel
theorem dX6_init_78 : decode cX6_init 78 = .ok (.if_icmp .ge 23, 3) := by decide +kernel
theorem dX6_init_81 : decode cX6_init 81 = .ok (.aload_n 0, 1) := by decide +kernel
theorem dX6_init_82 : decode cX6_init 82 = .ok (.getfield 11, 3) := by decide +kernel
theorem dX6_init_85 : decode cX6_init 85 = .ok (.iload_n 1, 1) := by decide +kernel
theorem dX6_init_86 : decode cX6_init 86 = .ok (.new 9, 3) := by decide +kernel
theorem dX6_init_89 : decode cX6_init 89 = .ok (.dup, 1) := by decide +kernel
theorem dX6_init_90 : decode cX6_init 90 = .ok (.iload_n 1, 1) := by decide +kernel
theorem dX6_init_91 : decode cX6_init 91 = .ok (.invokespecial 49, 3) := by decide +kernel
theorem dX6_init_94 : decode cX6_init 94 = .ok (.aastore, 1) := by decide +kernel
theorem dX6_init_95 : decode cX6_init 95 = .ok (.iinc 1 1, 3) := by decide +kernel
theorem dX6_init_98 : decode cX6_init 98 = .ok (.goto (-26), 3) := by decide +kernel
theorem dX6_init_101 : decode cX6_init 101 = .ok (.return_, 1) := by decide +kernel
theorem dX6_pass_0 : decode cX6_pass 0 = .ok (.iload_n 1, 1) := by decide +kernel
theorem dX6_pass_1 : decode cX6_pass 1 = .ok (.iconst 1, 1) := by decide +kernel
theorem dX6_pass_2 : decode cX6_pass 2 = .ok (.if_icmp .lt 10, 3) := by decide +kernel
theorem dX6_pass_5 : decode cX6_pass 5 = .ok (.iload_n 1, 1) := by decide +kernel
theorem dX6_pass_6 : decode cX6_pass 6 = .ok (.sipush 200, 3) := by decide +kernel
theorem dX6_pass_9 : decode cX6_pass 9 = .ok (.if_icmp .le 13, 3) := by decide +kernel
theorem dX6_pass_12 : decode cX6_pass 12 = .ok (.new 52, 3) := by decide +kernel
theorem dX6_pass_15 : decode cX6_pass 15 = .ok (.dup, 1) := by decide +kernel
theorem dX6_pass_16 : decode cX6_pass 16 = .ok (.ldc 54, 2) := by decide +kernel
theorem dX6_pass_18 : decode cX6_pass 18 = .ok (.invokespecial 56, 3) := by decide +kernel
theorem dX6_pass_21 : decode cX6_pass 21 = .ok (.athrow, 1) := by decide +kernel
theorem dX6_pass_22 : decode cX6_pass 22 = .ok (.aload_n 0, 1) := by decide +kernel
theorem dX6_pass_23 : decode cX6_pass 23 = .ok (.getfield 59, 3) := by decide +kernel
theorem dX6_pass_26 : decode cX6_pass 26 = .ok (.iload_n 1, 1) := by decide +kernel
theorem dX6_pass_27 : decode cX6_pass 27 = .ok (.iadd, 1) := by decide +kernel
theorem dX6_pass_28 : decode cX6_pass 28 = .ok (.sipush 2000, 3) := by decide +kernel
theorem dX6_pass_31 : decode cX6_pass 31 = .ok (.if_icmp .le 13, 3) := by decide +kernel
theorem dX6_pass_34 : decode cX6_pass 34 = .ok (.new 63, 3) := by decide +kernel
theorem dX6_pass_37 : decode cX6_pass 37 = .ok (.dup, 1) := by decide +kernel
theorem dX6_pass_38 : decode cX6_pass 38 = .ok (.ldc 65, 2) := by decide +kernel
theorem dX6_pass_40 : decode cX6_pass 40 = .ok (.invokespecial 67, 3) := by decide +kernel
theorem dX6_pass_43 : decode cX6_pass 43 = .ok (.athrow, 1) := by decide +kernel
theorem dX6_pass_44 : decode cX6_pass 44 = .ok (.aload_n 0, 1) := by decide +kernel
theorem dX6_pass_45 : decode cX6_pass 45 = .ok (.dup, 1) := by decide +kernel
theorem dX6_pass_46 : decode cX6_pass 46 = .ok (.getfield 59, 3) := by decide +kernel
theorem dX6_pass_49 : decode cX6_pass 49 = .ok (.iload_n 1, 1) := by decide +kernel
theorem dX6_pass_50 : decode cX6_pass 50 = .ok (.iadd, 1) := by decide +kernel
theorem dX6_pass_51 : decode cX6_pass 51 = .ok (.putfield 59, 3) := by decide +kernel
theorem dX6_pass_54 : decode cX6_pass 54 = .ok (.aload_n 0, 1) := by decide +kernel
theorem dX6_pass_55 : decode cX6_pass 55 = .ok (.getfield 59, 3) := by decide +kernel
theorem dX6_pass_58 : decode cX6_pass 58 = .ok (.ireturn, 1) := by decide +kernel
theorem dX6_worker_0 : decode cX6_worker 0 = .ok (.aload_n 0, 1) := by decide +kernel
theorem dX6_worker_1 : decode cX6_worker 1 = .ok (.iload_n 1, 1) := by decide +kernel
theorem dX6_worker_2 : decode cX6_worker 2 = .ok (.invokevirtual 68, 3) := by decide +kernel
theorem dX6_worker_5 : decode cX6_worker 5 = .ok (.astore 4, 2) := by decide +kernel
theorem dX6_worker_7 : decode cX6_worker 7 = .ok (.iload_n 2, 1) := by decide +kernel
theorem dX6_worker_8 : decode cX6_worker 8 = .ok (.ifCond .lt 20, 3) := by decide +kernel
theorem dX6_worker_11 : decode cX6_worker 11 = .ok (.iload_n 2, 1) := by decide +kernel
theorem dX6_worker_12 : decode cX6_worker 12 = .ok (.bipush 15, 2) := by decide +kernel
theorem dX6_worker_14 : decode cX6_worker 14 = .ok (.if_icmp .gt 14, 3) := by decide +kernel
theorem dX6_worker_17 : decode cX6_worker 17 = .ok (.iload_n 3, 1) := by decide +kernel
theorem dX6_worker_18 : decode cX6_worker 18 = .ok (.ifCond .lt 10, 3) := by decide +kernel
theorem dX6_worker_21 : decode cX6_worker 21 = .ok (.iload_n 3, 1) := by decide +kernel
theorem dX6_worker_22 : decode cX6_worker 22 = .ok (.sipush 1000, 3) := by decide +kernel
theorem dX6_worker_25 : decode cX6_worker 25 = .ok (.if_icmp .le 13, 3) := by decide +kernel
theorem dX6_worker_28 : decode cX6_worker 28 = .ok (.new 52, 3) := by decide +kernel
theorem dX6_worker_31 : decode cX6_worker 31 = .ok (.dup, 1) := by decide +kernel
theorem dX6_worker_32 : decode cX6_worker 32 = .ok (.ldc 72, 2) := by decide +kernel
theorem dX6_worker_34 : decode cX6_worker 34 = .ok (.invokespecial 56, 3) := by decide +kernel
theorem dX6_worker_37 : decode cX6_worker 37 = .ok (.athrow, 1) := by decide +kernel
theorem dX6_worker_38 : decode cX6_worker 38 = .ok (.aload 4, 2) := by decide +kernel
theorem dX6_worker_40 : decode cX6_worker 40 = .ok (.getfield 74, 3) := by decide +kernel
theorem dX6_worker_43 : decode cX6_worker 43 = .ok (.istore 5, 2) := by decide +kernel
theorem dX6_worker_45 : decode cX6_worker 45 = .ok (.aload 4, 2) := by decide +kernel
theorem dX6_worker_47 : decode cX6_worker 47 = .ok (.iload_n 2, 1) := by decide +kernel
theorem dX6_worker_48 : decode cX6_worker 48 = .ok (.putfield 77, 3) := by decide +kernel
theorem dX6_worker_51 : decode cX6_worker 51 = .ok (.aload 4, 2) := by decide +kernel
theorem dX6_worker_53 : decode cX6_worker 53 = .ok (.iload_n 3, 1) := by decide +kernel
theorem dX6_worker_54 : decode cX6_worker 54 = .ok (.putfield 74, 3) := by decide +kernel
theorem dX6_worker_57 : decode cX6_worker 57 = .ok (.iload 5, 2) := by decide +kernel
theorem dX6_worker_59 : decode cX6_worker 59 = .ok (.ireturn, 1) := by decide +kernel
theorem dX6_shift_0 : decode cX6_shift 0 = .ok (.iload_n 1, 1) := by decide +kernel
theorem dX6_shift_1 : decode cX6_shift 1 = .ok (.ifCond .lt 30, 3) := by decide +kernel
theorem dX6_shift_4 : decode cX6_shift 4 = .ok (.iload_n 1, 1) := by decide +kernel
theorem dX6_shift_5 : decode cX6_shift 5 = .ok (.sipush 2000, 3) := by decide +kernel
theorem dX6_shift_8 : decode cX6_shift 8 = .ok (.if_icmp .gt 23, 3) := by decide +kernel
theorem dX6_shift_11 : decode cX6_shift 11 = .ok (.iload_n 2, 1) := by decide +kernel
theorem dX6_shift_12 : decode cX6_shift 12 = .ok (.iconst 1, 1) := by decide +kernel
theorem dX6_shift_13 : decode cX6_shift 13 = .ok (.if_icmp .lt 18, 3) := by decide +kernel
theorem dX6_shift_16 : decode cX6_shift 16 = .ok (.iload_n 2, 1) := by decide +kernel
theorem dX6_shift_17 : decode cX6_shift 17 = .ok (.bipush 16, 2) := by decide +kernel
theorem dX6_shift_19 : decode cX6_shift 19 = .ok (.if_icmp .gt 12, 3) := by decide +kernel
theorem dX6_shift_22 : decode cX6_shift 22 = .ok (.iload_n 3, 1) := by decide +kernel
theorem dX6_shift_23 : decode cX6_shift 23 = .ok (.ifCond .lt 8, 3) := by decide +kernel
theorem dX6_shift_26 : decode cX6_shift 26 = .ok (.iload_n 3, 1) := by decide +kernel
theorem dX6_shift_27 : decode cX6_shift 27 = .ok (.iconst 3, 1) := by decide +kernel
theorem dX6_shift_28 : decode cX6_shift 28 = .ok (.if_icmp .le 13, 3) := by decide +kernel
theorem dX6_shift_31 : decode cX6_shift 31 = .ok (.new 52, 3) := by decide +kernel
theorem dX6_shift_34 : decode cX6_shift 34 = .ok (.dup, 1) := by decide +kernel
theorem dX6_shift_35 : decode cX6_shift 35 = .ok (.ldc 80, 2) := by decide +kernel
theorem dX6_shift_37 : decode cX6_shift 37 = .ok (.invokespecial 56, 3) := by decide +kernel
theorem dX6_shift_40 : decode cX6_shift 40 = .ok (.athrow, 1) := by decide +kernel
theorem dX6_shift_41 : decode cX6_shift 41 = .ok (.aload_n 0, 1) := by decide +kernel
theorem dX6_shift_42 : decode cX6_shift 42 = .ok (.getfield 82, 3) := by decide +kernel
theorem dX6_shift_45 : decode cX6_shift 45 = .ok (.aload_n 0, 1) := by decide +kernel
theorem dX6_shift_46 : decode cX6_shift 46 = .ok (.getfield 17, 3) := by decide +kernel
theorem dX6_shift_49 : decode cX6_shift 49 = .ok (.arraylength, 1) := by decide +kernel
theorem dX6_shift_50 : decode cX6_shift 50 = .ok (.if_icmp .lt 13, 3) := by decide +kernel
theorem dX6_shift_53 : decode cX6_shift 53 = .ok (.new 63, 3) := by decide +kernel
theorem dX6_shift_56 : decode cX6_shift 56 = .ok (.dup, 1) := by decide +kernel
theorem dX6_shift_57 : decode cX6_shift 57 = .ok (.ldc 85, 2) := by decide +kernel
theorem dX6_shift_59 : decode cX6_shift 59 = .ok (.invokespecial 67, 3) := by decide +kernel
theorem dX6_shift_62 : decode cX6_shift 62 = .ok (.athrow, 1) := by decide +kernel
theorem dX6_shift_63 : decode cX6_shift 63 = .ok (.aload_n 0, 1) := by decide +kernel
theorem dX6_shift_64 : decode cX6_shift 64 = .ok (.getfield 82, 3) := by decide +kernel
theorem dX6_shift_67 : decode cX6_shift 67 = .ok (.istore 4, 2) := by decide +kernel
theorem dX6_shift_69 : decode cX6_shift 69 = .ok (.aload_n 0, 1) := by decide +kernel
theorem dX6_shift_70 : decode cX6_shift 70 = .ok (.getfield 17, 3) := by decide +kernel
theorem dX6_shift_73 : decode cX6_shift 73 = .ok (.iload 4, 2) := by decide +kernel
theorem dX6_shift_75 : decode cX6_shift 75 = .ok (.new 15, 3) := by decide +kernel
theorem dX6_shift_78 : decode cX6_shift 78 = .ok (.dup, 1) := by decide +kernel
theorem dX6_shift_79 : decode cX6_shift 79 = .ok (.iload 4, 2) := by decide +kernel
theorem dX6_shift_81 : decode cX6_shift 81 = .ok (.iload_n 1, 1) := by decide +kernel
theorem dX6_shift_82 : decode cX6_shift 82 = .ok (.iload_n 2, 1) := by decide +kernel
theorem dX6_shift_83 : decode cX6_shift 83 = .ok (.iload_n 3, 1) := by decide +kernel
theorem dX6_shift_84 : decode cX6_shift 84 = .ok (.invokespecial 87, 3) := by decide +kernel
theorem dX6_shift_87 : decode cX6_shift 87 = .ok (.aastore, 1) := by decide +kernel
theorem dX6_shift_88 : decode cX6_shift 88 = .ok (.aload_n 0, 1) := by decide +kernel
theorem dX6_shift_89 : decode cX6_shift 89 = .ok (.dup, 1) := by decide +kernel
theorem dX6_shift_90 : decode cX6_shift 90 = .ok (.getfield 82, 3) := by decide +kernel
theorem dX6_shift_93 : decode cX6_shift 93 = .ok (.iconst 1, 1) := by decide +kernel
theorem dX6_shift_94 : decode cX6_shift 94 = .ok (.iadd, 1) := by decide +kernel
theorem dX6_shift_95 : decode cX6_shift 95 = .ok (.putfield 82, 3) := by decide +kernel
theorem dX6_shift_98 : decode cX6_shift 98 = .ok (.iload 4, 2) := by decide +kernel
theorem dX6_shift_100 : decode cX6_shift 100 = .ok (.ireturn, 1) := by decide +kernel
theorem dX6_hold_0 : decode cX6_hold 0 = .ok (.aload_n 0, 1) := by decide +kernel
theorem dX6_hold_1 : decode cX6_hold 1 = .ok (.iload_n 1, 1) := by decide +kernel
theorem dX6_hold_2 : decode cX6_hold 2 = .ok (.invokevirtual 90, 3) := by decide +kernel
theorem dX6_hold_5 : decode cX6_hold 5 = .ok (.astore_n 3, 1) := by decide +kernel
theorem dX6_hold_6 : decode cX6_hold 6 = .ok (.iload_n 2, 1) := by decide +kernel
theorem dX6_hold_7 : decode cX6_hold 7 = .ok (.iconst (-1), 1) := by decide +kernel
theorem dX6_hold_8 : decode cX6_hold 8 = .ok (.if_icmp .ne 7, 3) := by decide +kernel
theorem dX6_hold_11 : decode cX6_hold 11 = .ok (.aconst_null, 1) := by decide +kernel
theorem dX6_hold_12 : decode cX6_hold 12 = .ok (.goto 8, 3) := by decide +kernel
theorem dX6_hold_15 : decode cX6_hold 15 = .ok (.aload_n 0, 1) := by decide +kernel
theorem dX6_hold_16 : decode cX6_hold 16 = .ok (.iload_n 2, 1) := by decide +kernel
theorem dX6_hold_17 : decode cX6_hold 17 = .ok (.invokevirtual 68, 3) := by decide +kernel
theorem dX6_hold_20 : decode cX6_hold 20 = .ok (.astore 4, 2) := by decide +kernel
theorem dX6_hold_22 : decode cX6_hold 22 = .ok (.aload 4, 2) := by decide +kernel
theorem dX6_hold_24 : decode cX6_hold 24 = .ok (.ifnull 23, 3) := by decide +kernel
theorem dX6_hold_27 : decode cX6_hold 27 = .ok (.aload 4, 2) := by decide +kernel
theorem dX6_hold_29 : decode cX6_hold 29 = .ok (.aload_n 3, 1) := by decide +kernel
theorem dX6_hold_30 : decode cX6_hold 30 = .ok (.aconst_null, 1) := by decide +kernel
theorem dX6_hold_31 : decode cX6_hold 31 = .ok (.invokevirtual 94, 3) := by decide +kernel
theorem dX6_hold_34 : decode cX6_hold 34 = .ok (.ifCond .ne 13, 3) := by decide +kernel
theorem dX6_hold_37 : decode cX6_hold 37 = .ok (.new 63, 3) := by decide +kernel
theorem dX6_hold_40 : decode cX6_hold 40 = .ok (.dup, 1) := by decide +kernel
theorem dX6_hold_41 : decode cX6_hold 41 = .ok (.ldc 98, 2) := by decide +kernel
theorem dX6_hold_43 : decode cX6_hold 43 = .ok (.invokespecial 67, 3) := by decide +kernel
theorem dX6_hold_46 : decode cX6_hold 46 = .ok (.athrow, 1) := by decide +kernel
theorem dX6_hold_47 : decode cX6_hold 47 = .ok (.aload_n 3, 1) := by decide +kernel
theorem dX6_hold_48 : decode cX6_hold 48 = .ok (.invokevirtual 100, 3) := by decide +kernel
theorem dX6_hold_51 : decode cX6_hold 51 = .ok (.istore 5, 2) := by decide +kernel
theorem dX6_hold_53 : decode cX6_hold 53 = .ok (.aload_n 3, 1) := by decide +kernel
theorem dX6_hold_54 : decode cX6_hold 54 = .ok (.getfield 104, 3) := by decide +kernel
theorem dX6_hold_57 : decode cX6_hold 57 = .ok (.aload 4, 2) := by decide +kernel
theorem dX6_hold_59 : decode cX6_hold 59 = .ok (.if_acmp .eq 15, 3) := by decide +kernel
theorem dX6_hold_62 : decode cX6_hold 62 = .ok (.aload_n 0, 1) := by decide +kernel
theorem dX6_hold_63 : decode cX6_hold 63 = .ok (.aload_n 3, 1) := by decide +kernel
theorem dX6_hold_64 : decode cX6_hold 64 = .ok (.aload 4, 2) := by decide +kernel
theorem dX6_hold_66 : decode cX6_hold 66 = .ok (.invokevirtual 108, 3) := by decide +kernel
theorem dX6_hold_69 : decode cX6_hold 69 = .ok (.aload_n 0, 1) := by decide +kernel
theorem dX6_hold_70 : decode cX6_hold 70 = .ok (.invokevirtual 112, 3) := by decide +kernel
theorem dX6_hold_73 : decode cX6_hold 73 = .ok (.pop, 1) := by decide +kernel
theorem dX6_hold_74 : decode cX6_hold 74 = .ok (.iload 5, 2) := by decide +kernel
theorem dX6_hold_76 : decode cX6_hold 76 = .ok (.ireturn, 1) := by decide +kernel
theorem dX6_stamp_0 : decode cX6_stamp 0 = .ok (.aload_n 0, 1) := by decide +kernel
theorem dX6_stamp_1 : decode cX6_stamp 1 = .ok (.iload_n 1, 1) := by decide +kernel
theorem dX6_stamp_2 : decode cX6_stamp 2 = .ok (.invokevirtual 90, 3) := by decide +kernel
theorem dX6_stamp_5 : decode cX6_stamp 5 = .ok (.astore 4, 2) := by decide +kernel
theorem dX6_stamp_7 : decode cX6_stamp 7 = .ok (.iload_n 2, 1) := by decide +kernel
theorem dX6_stamp_8 : decode cX6_stamp 8 = .ok (.ifCond .lt 32, 3) := by decide +kernel
theorem dX6_stamp_11 : decode cX6_stamp 11 = .ok (.iload_n 2, 1) := by decide +kernel
theorem dX6_stamp_12 : decode cX6_stamp 12 = .ok (.aload_n 0, 1) := by decide +kernel
theorem dX6_stamp_13 : decode cX6_stamp 13 = .ok (.getfield 59, 3) := by decide +kernel
theorem dX6_stamp_16 : decode cX6_stamp 16 = .ok (.if_icmp .gt 24, 3) := by decide +kernel
theorem dX6_stamp_19 : decode cX6_stamp 19 = .ok (.iload_n 3, 1) := by decide +kernel
theorem dX6_stamp_20 : decode cX6_stamp 20 = .ok (.iload_n 2, 1) := by decide +kernel
theorem dX6_stamp_21 : decode cX6_stamp 21 = .ok (.if_icmp .le 19, 3) := by decide +kernel
theorem dX6_stamp_24 : decode cX6_stamp 24 = .ok (.iload_n 3, 1) := by decide +kernel
theorem dX6_stamp_25 : decode cX6_stamp 25 = .ok (.iload_n 2, 1) := by decide +kernel
theorem dX6_stamp_26 : decode cX6_stamp 26 = .ok (.bipush 24, 2) := by decide +kernel
theorem dX6_stamp_28 : decode cX6_stamp 28 = .ok (.iadd, 1) := by decide +kernel
theorem dX6_stamp_29 : decode cX6_stamp 29 = .ok (.if_icmp .gt 11, 3) := by decide +kernel
theorem dX6_stamp_32 : decode cX6_stamp 32 = .ok (.iload_n 3, 1) := by decide +kernel
theorem dX6_stamp_33 : decode cX6_stamp 33 = .ok (.aload_n 0, 1) := by decide +kernel
theorem dX6_stamp_34 : decode cX6_stamp 34 = .ok (.getfield 59, 3) := by decide +kernel
theorem dX6_stamp_37 : decode cX6_stamp 37 = .ok (.if_icmp .le 13, 3) := by decide +kernel
theorem dX6_stamp_40 : decode cX6_stamp 40 = .ok (.new 52, 3) := by decide +kernel
theorem dX6_stamp_43 : decode cX6_stamp 43 = .ok (.dup, 1) := by decide +kernel
theorem dX6_stamp_44 : decode cX6_stamp 44 = .ok (.ldc 115, 2) := by decide +kernel
theorem dX6_stamp_46 : decode cX6_stamp 46 = .ok (.invokespecial 56, 3) := by decide +kernel
theorem dX6_stamp_49 : decode cX6_stamp 49 = .ok (.athrow, 1) := by decide +kernel
theorem dX6_stamp_50 : decode cX6_stamp 50 = .ok (.aload 4, 2) := by decide +kernel
theorem dX6_stamp_52 : decode cX6_stamp 52 = .ok (.getfield 104, 3) := by decide +kernel
theorem dX6_stamp_55 : decode cX6_stamp 55 = .ok (.astore 5, 2) := by decide +kernel
theorem dX6_stamp_57 : decode cX6_stamp 57 = .ok (.aload 5, 2) := by decide +kernel
theorem dX6_stamp_59 : decode cX6_stamp 59 = .ok (.ifnull 18, 3) := by decide +kernel
theorem dX6_stamp_62 : decode cX6_stamp 62 = .ok (.aload_n 0, 1) := by decide +kernel
theorem dX6_stamp_63 : decode cX6_stamp 63 = .ok (.getfield 59, 3) := by decide +kernel
theorem dX6_stamp_66 : decode cX6_stamp 66 = .ok (.aload 4, 2) := by decide +kernel
theorem dX6_stamp_68 : decode cX6_stamp 68 = .ok (.getfield 117, 3) := by decide +kernel
theorem dX6_stamp_71 : decode cX6_stamp 71 = .ok (.bipush 100, 2) := by decide +kernel
theorem dX6_stamp_73 : decode cX6_stamp 73 = .ok (.iadd, 1) := by decide +kernel
theorem dX6_stamp_74 : decode cX6_stamp 74 = .ok (.if_icmp .le 13, 3) := by decide +kernel
theorem dX6_stamp_77 : decode cX6_stamp 77 = .ok (.new 63, 3) := by decide +kernel
theorem dX6_stamp_80 : decode cX6_stamp 80 = .ok (.dup, 1) := by decide +kernel
theorem dX6_stamp_81 : decode cX6_stamp 81 = .ok (.ldc 120, 2) := by decide +kernel
theorem dX6_stamp_83 : decode cX6_stamp 83 = .ok (.invokespecial 67, 3) := by decide +kernel
theorem dX6_stamp_86 : decode cX6_stamp 86 = .ok (.athrow, 1) := by decide +kernel
theorem dX6_stamp_87 : decode cX6_stamp 87 = .ok (.aload 5, 2) := by decide +kernel
theorem dX6_stamp_89 : decode cX6_stamp 89 = .ok (.aload 4, 2) := by decide +kernel
theorem dX6_stamp_91 : decode cX6_stamp 91 = .ok (.invokevirtual 122, 3) := by decide +kernel
theorem dX6_stamp_94 : decode cX6_stamp 94 = .ok (.aload 4, 2) := by decide +kernel
theorem dX6_stamp_96 : decode cX6_stamp 96 = .ok (.iload_n 2, 1) := by decide +kernel
theorem dX6_stamp_97 : decode cX6_stamp 97 = .ok (.putfield 126, 3) := by decide +kernel
theorem dX6_stamp_100 : decode cX6_stamp 100 = .ok (.aload 4, 2) := by decide +kernel
theorem dX6_stamp_102 : decode cX6_stamp 102 = .ok (.iload_n 3, 1) := by decide +kernel
theorem dX6_stamp_103 : decode cX6_stamp 103 = .ok (.putfield 129, 3) := by decide +kernel
theorem dX6_stamp_106 : decode cX6_stamp 106 = .ok (.aload 5, 2) := by decide +kernel
theorem dX6_stamp_108 : decode cX6_stamp 108 = .ok (.aload 4, 2) := by decide +kernel
theorem dX6_stamp_110 : decode cX6_stamp 110 = .ok (.invokevirtual 132, 3) := by decide +kernel
theorem dX6_stamp_113 : decode cX6_stamp 113 = .ok (.aload_n 0, 1) := by decide +kernel
theorem dX6_stamp_114 : decode cX6_stamp 114 = .ok (.invokevirtual 112, 3) := by decide +kernel
theorem dX6_stamp_117 : decode cX6_stamp 117 = .ok (.pop, 1) := by decide +kernel
theorem dX6_stamp_118 : decode cX6_stamp 118 = .ok (.aload 4, 2) := by decide +kernel
theorem dX6_stamp_120 : decode cX6_stamp 120 = .ok (.invokevirtual 135, 3) := by decide +kernel
theorem dX6_stamp_123 : decode cX6_stamp 123 = .ok (.aload 4, 2) := by decide +kernel
theorem dX6_stamp_125 : decode cX6_stamp 125 = .ok (.invokevirtual 138, 3) := by decide +kernel
theorem dX6_stamp_128 : decode cX6_stamp 128 = .ok (.isub, 1) := by decide +kernel
theorem dX6_stamp_129 : decode cX6_stamp 129 = .ok (.ireturn, 1) := by decide +kernel
theorem dX6_holder_0 : decode cX6_holder 0 = .ok (.aload_n 0, 1) := by decide +kernel
theorem dX6_holder_1 : decode cX6_holder 1 = .ok (.iload_n 1, 1) := by decide +kernel
theorem dX6_holder_2 : decode cX6_holder 2 = .ok (.invokevirtual 90, 3) := by decide +kernel
theorem dX6_holder_5 : decode cX6_holder 5 = .ok (.invokevirtual 100, 3) := by decide +kernel
theorem dX6_holder_8 : decode cX6_holder 8 = .ok (.ireturn, 1) := by decide +kernel
theorem dX6_shiftOf_0 : decode cX6_shiftOf 0 = .ok (.aload_n 0, 1) := by decide +kernel
theorem dX6_shiftOf_1 : decode cX6_shiftOf 1 = .ok (.iload_n 1, 1) := by decide +kernel
theorem dX6_shiftOf_2 : decode cX6_shiftOf 2 = .ok (.invokevirtual 68, 3) := by decide +kernel
theorem dX6_shiftOf_5 : decode cX6_shiftOf 5 = .ok (.iload_n 2, 1) := by decide +kernel
theorem dX6_shiftOf_6 : decode cX6_shiftOf 6 = .ok (.invokevirtual 141, 3) := by decide +kernel
theorem dX6_shiftOf_9 : decode cX6_shiftOf 9 = .ok (.astore_n 3, 1) := by decide +kernel
theorem dX6_shiftOf_10 : decode cX6_shiftOf 10 = .ok (.aload_n 3, 1) := by decide +kernel
theorem dX6_shiftOf_11 : decode cX6_shiftOf 11 = .ok (.ifnonnull 13, 3) := by decide +kernel
theorem dX6_shiftOf_14 : decode cX6_shiftOf 14 = .ok (.new 144, 3) := by decide +kernel
theorem dX6_shiftOf_17 : decode cX6_shiftOf 17 = .ok (.dup, 1) := by decide +kernel
theorem dX6_shiftOf_18 : decode cX6_shiftOf 18 = .ok (.ldc 146, 2) := by decide +kernel
theorem dX6_shiftOf_20 : decode cX6_shiftOf 20 = .ok (.invokespecial 148, 3) := by decide +kernel
theorem dX6_shiftOf_23 : decode cX6_shiftOf 23 = .ok (.athrow, 1) := by decide +kernel
theorem dX6_shiftOf_24 : decode cX6_shiftOf 24 = .ok (.aload_n 3, 1) := by decide +kernel
theorem dX6_shiftOf_25 : decode cX6_shiftOf 25 = .ok (.getfield 149, 3) := by decide +kernel
theorem dX6_shiftOf_28 : decode cX6_shiftOf 28 = .ok (.ireturn, 1) := by decide +kernel
theorem dX6_rest_0 : decode cX6_rest 0 = .ok (.aload_n 0, 1) := by decide +kernel
theorem dX6_rest_1 : decode cX6_rest 1 = .ok (.iload_n 1, 1) := by decide +kernel
theorem dX6_rest_2 : decode cX6_rest 2 = .ok (.invokevirtual 90, 3) := by decide +kernel
theorem dX6_rest_5 : decode cX6_rest 5 = .ok (.astore_n 2, 1) := by decide +kernel
theorem dX6_rest_6 : decode cX6_rest 6 = .ok (.aload_n 2, 1) := by decide +kernel
theorem dX6_rest_7 : decode cX6_rest 7 = .ok (.getfield 104, 3) := by decide +kernel
theorem dX6_rest_10 : decode cX6_rest 10 = .ok (.ifnonnull 9, 3) := by decide +kernel
theorem dX6_rest_13 : decode cX6_rest 13 = .ok (.sipush 10000, 3) := by decide +kernel
theorem dX6_rest_16 : decode cX6_rest 16 = .ok (.goto 11, 3) := by decide +kernel
theorem dX6_rest_19 : decode cX6_rest 19 = .ok (.aload_n 2, 1) := by decide +kernel
theorem dX6_rest_20 : decode cX6_rest 20 = .ok (.getfield 104, 3) := by decide +kernel
theorem dX6_rest_23 : decode cX6_rest 23 = .ok (.aload_n 2, 1) := by decide +kernel
theorem dX6_rest_24 : decode cX6_rest 24 = .ok (.invokevirtual 152, 3) := by decide +kernel
theorem dX6_rest_27 : decode cX6_rest 27 = .ok (.ireturn, 1) := by decide +kernel
theorem dX6_put_0 : decode cX6_put 0 = .ok (.iload_n 1, 1) := by decide +kernel
theorem dX6_put_1 : decode cX6_put 1 = .ok (.invokestatic 156, 3) := by decide +kernel
theorem dX6_put_4 : decode cX6_put 4 = .ok (.ifCond .ne 13, 3) := by decide +kernel
theorem dX6_put_7 : decode cX6_put 7 = .ok (.new 52, 3) := by decide +kernel
theorem dX6_put_10 : decode cX6_put 10 = .ok (.dup, 1) := by decide +kernel
theorem dX6_put_11 : decode cX6_put 11 = .ok (.ldc 160, 2) := by decide +kernel
theorem dX6_put_13 : decode cX6_put 13 = .ok (.invokespecial 56, 3) := by decide +kernel
theorem dX6_put_16 : decode cX6_put 16 = .ok (.athrow, 1) := by decide +kernel
theorem dX6_put_17 : decode cX6_put 17 = .ok (.aload_n 0, 1) := by decide +kernel
theorem dX6_put_18 : decode cX6_put 18 = .ok (.getfield 45, 3) := by decide +kernel
theorem dX6_put_21 : decode cX6_put 21 = .ok (.invokevirtual 162, 3) := by decide +kernel
theorem dX6_put_24 : decode cX6_put 24 = .ok (.ifCond .eq 13, 3) := by decide +kernel
theorem dX6_put_27 : decode cX6_put 27 = .ok (.new 63, 3) := by decide +kernel
theorem dX6_put_30 : decode cX6_put 30 = .ok (.dup, 1) := by decide +kernel
theorem dX6_put_31 : decode cX6_put 31 = .ok (.ldc 166, 2) := by decide +kernel
theorem dX6_put_33 : decode cX6_put 33 = .ok (.invokespecial 67, 3) := by decide +kernel
theorem dX6_put_36 : decode cX6_put 36 = .ok (.athrow, 1) := by decide +kernel
theorem dX6_put_37 : decode cX6_put 37 = .ok (.aload_n 0, 1) := by decide +kernel
theorem dX6_put_38 : decode cX6_put 38 = .ok (.getfield 45, 3) := by decide +kernel
theorem dX6_put_41 : decode cX6_put 41 = .ok (.iload_n 1, 1) := by decide +kernel
theorem dX6_put_42 : decode cX6_put 42 = .ok (.invokevirtual 168, 3) := by decide +kernel
theorem dX6_put_45 : decode cX6_put 45 = .ok (.aload_n 0, 1) := by decide +kernel
theorem dX6_put_46 : decode cX6_put 46 = .ok (.getfield 45, 3) := by decide +kernel
theorem dX6_put_49 : decode cX6_put 49 = .ok (.getfield 172, 3) := by decide +kernel
theorem dX6_put_52 : decode cX6_put 52 = .ok (.ireturn, 1) := by decide +kernel
theorem dX6_empty_0 : decode cX6_empty 0 = .ok (.aload_n 0, 1) := by decide +kernel
theorem dX6_empty_1 : decode cX6_empty 1 = .ok (.getfield 45, 3) := by decide +kernel
theorem dX6_empty_4 : decode cX6_empty 4 = .ok (.getfield 172, 3) := by decide +kernel
theorem dX6_empty_7 : decode cX6_empty 7 = .ok (.istore_n 1, 1) := by decide +kernel
theorem dX6_empty_8 : decode cX6_empty 8 = .ok (.aload_n 0, 1) := by decide +kernel
theorem dX6_empty_9 : decode cX6_empty 9 = .ok (.getfield 45, 3) := by decide +kernel
theorem dX6_empty_12 : decode cX6_empty 12 = .ok (.invokevirtual 175, 3) := by decide +kernel
theorem dX6_empty_15 : decode cX6_empty 15 = .ok (.iload_n 1, 1) := by decide +kernel
theorem dX6_empty_16 : decode cX6_empty 16 = .ok (.ireturn, 1) := by decide +kernel
theorem dX6_wrongAt_0 : decode cX6_wrongAt 0 = .ok (.aload_n 0, 1) := by decide +kernel
theorem dX6_wrongAt_1 : decode cX6_wrongAt 1 = .ok (.getfield 45, 3) := by decide +kernel
theorem dX6_wrongAt_4 : decode cX6_wrongAt 4 = .ok (.invokevirtual 178, 3) := by decide +kernel
theorem dX6_wrongAt_7 : decode cX6_wrongAt 7 = .ok (.ireturn, 1) := by decide +kernel
theorem dX6_read_0 : decode cX6_read 0 = .ok (.aload_n 0, 1) := by decide +kernel
theorem dX6_read_1 : decode cX6_read 1 = .ok (.getfield 45, 3) := by decide +kernel
theorem dX6_read_4 : decode cX6_read 4 = .ok (.invokevirtual 178, 3) := by decide +kernel
theorem dX6_read_7 : decode cX6_read 7 = .ok (.iconst (-1), 1) := by decide +kernel
theorem dX6_read_8 : decode cX6_read 8 = .ok (.if_icmp .eq 13, 3) := by decide +kernel
theorem dX6_read_11 : decode cX6_read 11 = .ok (.new 52, 3) := by decide +kernel
theorem dX6_read_14 : decode cX6_read 14 = .ok (.dup, 1) := by decide +kernel
theorem dX6_read_15 : decode cX6_read 15 = .ok (.ldc 181, 2) := by decide +kernel
theorem dX6_read_17 : decode cX6_read 17 = .ok (.invokespecial 56, 3) := by decide +kernel
theorem dX6_read_20 : decode cX6_read 20 = .ok (.athrow, 1) := by decide +kernel
theorem dX6_read_21 : decode cX6_read 21 = .ok (.aload_n 0, 1) := by decide +kernel
theorem dX6_read_22 : decode cX6_read 22 = .ok (.getfield 183, 3) := by decide +kernel
theorem dX6_read_25 : decode cX6_read 25 = .ok (.aload_n 0, 1) := by decide +kernel
theorem dX6_read_26 : decode cX6_read 26 = .ok (.getfield 23, 3) := by decide +kernel
theorem dX6_read_29 : decode cX6_read 29 = .ok (.arraylength, 1) := by decide +kernel
theorem dX6_read_30 : decode cX6_read 30 = .ok (.if_icmp .lt 13, 3) := by decide +kernel
theorem dX6_read_33 : decode cX6_read 33 = .ok (.new 63, 3) := by decide +kernel
theorem dX6_read_36 : decode cX6_read 36 = .ok (.dup, 1) := by decide +kernel
theorem dX6_read_37 : decode cX6_read 37 = .ok (.ldc 186, 2) := by decide +kernel
theorem dX6_read_39 : decode cX6_read 39 = .ok (.invokespecial 67, 3) := by decide +kernel
theorem dX6_read_42 : decode cX6_read 42 = .ok (.athrow, 1) := by decide +kernel
theorem dX6_read_43 : decode cX6_read 43 = .ok (.aload_n 0, 1) := by decide +kernel
theorem dX6_read_44 : decode cX6_read 44 = .ok (.getfield 183, 3) := by decide +kernel
theorem dX6_read_47 : decode cX6_read 47 = .ok (.istore_n 1, 1) := by decide +kernel
theorem dX6_read_48 : decode cX6_read 48 = .ok (.aload_n 0, 1) := by decide +kernel
theorem dX6_read_49 : decode cX6_read 49 = .ok (.getfield 23, 3) := by decide +kernel
theorem dX6_read_52 : decode cX6_read 52 = .ok (.iload_n 1, 1) := by decide +kernel
theorem dX6_read_53 : decode cX6_read 53 = .ok (.new 21, 3) := by decide +kernel
theorem dX6_read_56 : decode cX6_read 56 = .ok (.dup, 1) := by decide +kernel
theorem dX6_read_57 : decode cX6_read 57 = .ok (.iload_n 1, 1) := by decide +kernel
theorem dX6_read_58 : decode cX6_read 58 = .ok (.aload_n 0, 1) := by decide +kernel
theorem dX6_read_59 : decode cX6_read 59 = .ok (.getfield 45, 3) := by decide +kernel
theorem dX6_read_62 : decode cX6_read 62 = .ok (.invokespecial 188, 3) := by decide +kernel
theorem dX6_read_65 : decode cX6_read 65 = .ok (.aastore, 1) := by decide +kernel
theorem dX6_read_66 : decode cX6_read 66 = .ok (.aload_n 0, 1) := by decide +kernel
theorem dX6_read_67 : decode cX6_read 67 = .ok (.dup, 1) := by decide +kernel
theorem dX6_read_68 : decode cX6_read 68 = .ok (.getfield 183, 3) := by decide +kernel
theorem dX6_read_71 : decode cX6_read 71 = .ok (.iconst 1, 1) := by decide +kernel
theorem dX6_read_72 : decode cX6_read 72 = .ok (.iadd, 1) := by decide +kernel
theorem dX6_read_73 : decode cX6_read 73 = .ok (.putfield 183, 3) := by decide +kernel
theorem dX6_read_76 : decode cX6_read 76 = .ok (.aload_n 0, 1) := by decide +kernel
theorem dX6_read_77 : decode cX6_read 77 = .ok (.getfield 45, 3) := by decide +kernel
theorem dX6_read_80 : decode cX6_read 80 = .ok (.invokevirtual 175, 3) := by decide +kernel
theorem dX6_read_83 : decode cX6_read 83 = .ok (.aload_n 0, 1) := by decide +kernel
theorem dX6_read_84 : decode cX6_read 84 = .ok (.invokevirtual 112, 3) := by decide +kernel
theorem dX6_read_87 : decode cX6_read 87 = .ok (.pop, 1) := by decide +kernel
theorem dX6_read_88 : decode cX6_read 88 = .ok (.iload_n 1, 1) := by decide +kernel
theorem dX6_read_89 : decode cX6_read 89 = .ok (.ireturn, 1) := by decide +kernel
theorem dX6_drop_0 : decode cX6_drop 0 = .ok (.aload_n 0, 1) := by decide +kernel
theorem dX6_drop_1 : decode cX6_drop 1 = .ok (.iload_n 1, 1) := by decide +kernel
theorem dX6_drop_2 : decode cX6_drop 2 = .ok (.invokevirtual 191, 3) := by decide +kernel
theorem dX6_drop_5 : decode cX6_drop 5 = .ok (.astore_n 2, 1) := by decide +kernel
theorem dX6_drop_6 : decode cX6_drop 6 = .ok (.aload_n 2, 1) := by decide +kernel
theorem dX6_drop_7 : decode cX6_drop 7 = .ok (.getfield 195, 3) := by decide +kernel
theorem dX6_drop_10 : decode cX6_drop 10 = .ok (.ifCond .eq 13, 3) := by decide +kernel
theorem dX6_drop_13 : decode cX6_drop 13 = .ok (.new 63, 3) := by decide +kernel
theorem dX6_drop_16 : decode cX6_drop 16 = .ok (.dup, 1) := by decide +kernel
theorem dX6_drop_17 : decode cX6_drop 17 = .ok (.ldc 199, 2) := by decide +kernel
theorem dX6_drop_19 : decode cX6_drop 19 = .ok (.invokespecial 67, 3) := by decide +kernel
theorem dX6_drop_22 : decode cX6_drop 22 = .ok (.athrow, 1) := by decide +kernel
theorem dX6_drop_23 : decode cX6_drop 23 = .ok (.aload_n 2, 1) := by decide +kernel
theorem dX6_drop_24 : decode cX6_drop 24 = .ok (.iconst 1, 1) := by decide +kernel
theorem dX6_drop_25 : decode cX6_drop 25 = .ok (.putfield 195, 3) := by decide +kernel
theorem dX6_drop_28 : decode cX6_drop 28 = .ok (.aload_n 0, 1) := by decide +kernel
theorem dX6_drop_29 : decode cX6_drop 29 = .ok (.invokevirtual 112, 3) := by decide +kernel
theorem dX6_drop_32 : decode cX6_drop 32 = .ok (.ireturn, 1) := by decide +kernel
theorem dX6_breaks_0 : decode cX6_breaks 0 = .ok (.aload_n 0, 1) := by decide +kernel
theorem dX6_breaks_1 : decode cX6_breaks 1 = .ok (.iload_n 2, 1) := by decide +kernel
theorem dX6_breaks_2 : decode cX6_breaks 2 = .ok (.invokevirtual 191, 3) := by decide +kernel
theorem dX6_breaks_5 : decode cX6_breaks 5 = .ok (.aload_n 0, 1) := by decide +kernel
theorem dX6_breaks_6 : decode cX6_breaks 6 = .ok (.iload_n 1, 1) := by decide +kernel
theorem dX6_breaks_7 : decode cX6_breaks 7 = .ok (.invokevirtual 90, 3) := by decide +kernel
theorem dX6_breaks_10 : decode cX6_breaks 10 = .ok (.invokevirtual 201, 3) := by decide +kernel
theorem dX6_breaks_13 : decode cX6_breaks 13 = .ok (.ireturn, 1) := by decide +kernel
theorem dX6_breaches_0 : decode cX6_breaches 0 = .ok (.aload_n 0, 1) := by decide +kernel
theorem dX6_breaches_1 : decode cX6_breaches 1 = .ok (.iload_n 1, 1) := by decide +kernel
theorem dX6_breaches_2 : decode cX6_breaches 2 = .ok (.invokevirtual 68, 3) := by decide +kernel
theorem dX6_breaches_5 : decode cX6_breaches 5 = .ok (.astore_n 3, 1) := by decide +kernel
theorem dX6_breaches_6 : decode cX6_breaches 6 = .ok (.iload_n 2, 1) := by decide +kernel
theorem dX6_breaches_7 : decode cX6_breaches 7 = .ok (.ifCond .lt 9, 3) := by decide +kernel
theorem dX6_breaches_10 : decode cX6_breaches 10 = .ok (.iload_n 2, 1) := by decide +kernel
theorem dX6_breaches_11 : decode cX6_breaches 11 = .ok (.bipush 11, 2) := by decide +kernel
theorem dX6_breaches_13 : decode cX6_breaches 13 = .ok (.if_icmp .le 13, 3) := by decide +kernel
theorem dX6_breaches_16 : decode cX6_breaches 16 = .ok (.new 52, 3) := by decide +kernel
theorem dX6_breaches_19 : decode cX6_breaches 19 = .ok (.dup, 1) := by decide +kernel
theorem dX6_breaches_20 : decode cX6_breaches 20 = .ok (.ldc 205, 2) := by decide +kernel
theorem dX6_breaches_22 : decode cX6_breaches 22 = .ok (.invokespecial 56, 3) := by decide +kernel
theorem dX6_breaches_25 : decode cX6_breaches 25 = .ok (.athrow, 1) := by decide +kernel
theorem dX6_breaches_26 : decode cX6_breaches 26 = .ok (.iconst 0, 1) := by decide +kernel
theorem dX6_breaches_27 : decode cX6_breaches 27 = .ok (.istore 4, 2) := by decide +kernel
theorem dX6_breaches_29 : decode cX6_breaches 29 = .ok (.aload_n 3, 1) := by decide +kernel
theorem dX6_breaches_30 : decode cX6_breaches 30 = .ok (.getfield 207, 3) := by decide +kernel
theorem dX6_breaches_33 : decode cX6_breaches 33 = .ok (.astore 5, 2) := by decide +kernel
theorem dX6_breaches_35 : decode cX6_breaches 35 = .ok (.aload 5, 2) := by decide +kernel
theorem dX6_breaches_37 : decode cX6_breaches 37 = .ok (.arraylength, 1) := by decide +kernel
theorem dX6_breaches_38 : decode cX6_breaches 38 = .ok (.istore 6, 2) := by decide +kernel
theorem dX6_breaches_40 : decode cX6_breaches 40 = .ok (.iconst 0, 1) := by decide +kernel
theorem dX6_breaches_41 : decode cX6_breaches 41 = .ok (.istore 7, 2) := by decide +kernel
theorem dX6_breaches_43 : decode cX6_breaches 43 = .ok (.iload 7, 2) := by decide +kernel
theorem dX6_breaches_45 : decode cX6_breaches 45 = .ok (.iload 6, 2) := by decide +kernel
theorem dX6_breaches_47 : decode cX6_breaches 47 = .ok (.if_icmp .ge 41, 3) := by decide +kernel
theorem dX6_breaches_50 : decode cX6_breaches 50 = .ok (.aload 5, 2) := by decide +kernel
theorem dX6_breaches_52 : decode cX6_breaches 52 = .ok (.iload 7, 2) := by decide +kernel
theorem dX6_breaches_54 : decode cX6_breaches 54 = .ok (.aaload, 1) := by decide +kernel
theorem dX6_breaches_55 : decode cX6_breaches 55 = .ok (.astore 8, 2) := by decide +kernel
theorem dX6_breaches_57 : decode cX6_breaches 57 = .ok (.aload 8, 2) := by decide +kernel
theorem dX6_breaches_59 : decode cX6_breaches 59 = .ok (.ifnull 23, 3) := by decide +kernel
theorem dX6_breaches_62 : decode cX6_breaches 62 = .ok (.aload 8, 2) := by decide +kernel
theorem dX6_breaches_64 : decode cX6_breaches 64 = .ok (.invokevirtual 210, 3) := by decide +kernel
theorem dX6_breaches_67 : decode cX6_breaches 67 = .ok (.iload_n 2, 1) := by decide +kernel
theorem dX6_breaches_68 : decode cX6_breaches 68 = .ok (.if_icmp .ne 14, 3) := by decide +kernel
theorem dX6_breaches_71 : decode cX6_breaches 71 = .ok (.iload 4, 2) := by decide +kernel
theorem dX6_breaches_73 : decode cX6_breaches 73 = .ok (.aload_n 0, 1) := by decide +kernel
theorem dX6_breaches_74 : decode cX6_breaches 74 = .ok (.aload 8, 2) := by decide +kernel
theorem dX6_breaches_76 : decode cX6_breaches 76 = .ok (.invokevirtual 213, 3) := by decide +kernel
theorem dX6_breaches_79 : decode cX6_breaches 79 = .ok (.iadd, 1) := by decide +kernel
theorem dX6_breaches_80 : decode cX6_breaches 80 = .ok (.istore 4, 2) := by decide +kernel
theorem dX6_breaches_82 : decode cX6_breaches 82 = .ok (.iinc 7 1, 3) := by decide +kernel
theorem dX6_breaches_85 : decode cX6_breaches 85 = .ok (.goto (-42), 3) := by decide +kernel
theorem dX6_breaches_88 : decode cX6_breaches 88 = .ok (.iload 4, 2) := by decide +kernel
theorem dX6_breaches_90 : decode cX6_breaches 90 = .ok (.ireturn, 1) := by decide +kernel
theorem dX6_claims_0 : decode cX6_claims 0 = .ok (.aload_n 0, 1) := by decide +kernel
theorem dX6_claims_1 : decode cX6_claims 1 = .ok (.getfield 216, 3) := by decide +kernel
theorem dX6_claims_4 : decode cX6_claims 4 = .ok (.ireturn, 1) := by decide +kernel
theorem dX6_state_0 : decode cX6_state 0 = .ok (.aload_n 0, 1) := by decide +kernel
theorem dX6_state_1 : decode cX6_state 1 = .ok (.iload_n 1, 1) := by decide +kernel
theorem dX6_state_2 : decode cX6_state 2 = .ok (.invokevirtual 219, 3) := by decide +kernel
theorem dX6_state_5 : decode cX6_state 5 = .ok (.getfield 223, 3) := by decide +kernel
theorem dX6_state_8 : decode cX6_state 8 = .ok (.ireturn, 1) := by decide +kernel
theorem dX6_about_0 : decode cX6_about 0 = .ok (.aload_n 0, 1) := by decide +kernel
theorem dX6_about_1 : decode cX6_about 1 = .ok (.iload_n 1, 1) := by decide +kernel
theorem dX6_about_2 : decode cX6_about 2 = .ok (.invokevirtual 219, 3) := by decide +kernel
theorem dX6_about_5 : decode cX6_about 5 = .ok (.astore_n 2, 1) := by decide +kernel
theorem dX6_about_6 : decode cX6_about 6 = .ok (.sipush 10000, 3) := by decide +kernel
theorem dX6_about_9 : decode cX6_about 9 = .ok (.aload_n 2, 1) := by decide +kernel
theorem dX6_about_10 : decode cX6_about 10 = .ok (.getfield 226, 3) := by decide +kernel
theorem dX6_about_13 : decode cX6_about 13 = .ok (.getfield 229, 3) := by decide +kernel
theorem dX6_about_16 : decode cX6_about 16 = .ok (.imul, 1) := by decide +kernel
theorem dX6_about_17 : decode cX6_about 17 = .ok (.bipush 100, 2) := by decide +kernel
theorem dX6_about_19 : decode cX6_about 19 = .ok (.aload_n 2, 1) := by decide +kernel
theorem dX6_about_20 : decode cX6_about 20 = .ok (.getfield 230, 3) := by decide +kernel
theorem dX6_about_23 : decode cX6_about 23 = .ok (.getfield 149, 3) := by decide +kernel
theorem dX6_about_26 : decode cX6_about 26 = .ok (.imul, 1) := by decide +kernel
theorem dX6_about_27 : decode cX6_about 27 = .ok (.iadd, 1) := by decide +kernel
theorem dX6_about_28 : decode cX6_about 28 = .ok (.aload_n 2, 1) := by decide +kernel
theorem dX6_about_29 : decode cX6_about 29 = .ok (.getfield 234, 3) := by decide +kernel
theorem dX6_about_32 : decode cX6_about 32 = .ok (.getfield 238, 3) := by decide +kernel
theorem dX6_about_35 : decode cX6_about 35 = .ok (.iadd, 1) := by decide +kernel
theorem dX6_about_36 : decode cX6_about 36 = .ok (.ireturn, 1) := by decide +kernel
theorem dX6_worth_0 : decode cX6_worth 0 = .ok (.aload_n 0, 1) := by decide +kernel
theorem dX6_worth_1 : decode cX6_worth 1 = .ok (.iload_n 1, 1) := by decide +kernel
theorem dX6_worth_2 : decode cX6_worth 2 = .ok (.invokevirtual 219, 3) := by decide +kernel
theorem dX6_worth_5 : decode cX6_worth 5 = .ok (.invokevirtual 239, 3) := by decide +kernel
theorem dX6_worth_8 : decode cX6_worth 8 = .ok (.ireturn, 1) := by decide +kernel
theorem dX6_pay_0 : decode cX6_pay 0 = .ok (.aload_n 0, 1) := by decide +kernel
theorem dX6_pay_1 : decode cX6_pay 1 = .ok (.iload_n 1, 1) := by decide +kernel
theorem dX6_pay_2 : decode cX6_pay 2 = .ok (.invokevirtual 219, 3) := by decide +kernel
theorem dX6_pay_5 : decode cX6_pay 5 = .ok (.astore_n 2, 1) := by decide +kernel
theorem dX6_pay_6 : decode cX6_pay 6 = .ok (.aload_n 2, 1) := by decide +kernel
theorem dX6_pay_7 : decode cX6_pay 7 = .ok (.getfield 223, 3) := by decide +kernel
theorem dX6_pay_10 : decode cX6_pay 10 = .ok (.ifCond .eq 13, 3) := by decide +kernel
theorem dX6_pay_13 : decode cX6_pay 13 = .ok (.new 63, 3) := by decide +kernel
theorem dX6_pay_16 : decode cX6_pay 16 = .ok (.dup, 1) := by decide +kernel
theorem dX6_pay_17 : decode cX6_pay 17 = .ok (.ldc 242, 2) := by decide +kernel
theorem dX6_pay_19 : decode cX6_pay 19 = .ok (.invokespecial 67, 3) := by decide +kernel
theorem dX6_pay_22 : decode cX6_pay 22 = .ok (.athrow, 1) := by decide +kernel
theorem dX6_pay_23 : decode cX6_pay 23 = .ok (.aload_n 2, 1) := by decide +kernel
theorem dX6_pay_24 : decode cX6_pay 24 = .ok (.iconst 1, 1) := by decide +kernel
theorem dX6_pay_25 : decode cX6_pay 25 = .ok (.putfield 223, 3) := by decide +kernel
theorem dX6_pay_28 : decode cX6_pay 28 = .ok (.aload_n 2, 1) := by decide +kernel
theorem dX6_pay_29 : decode cX6_pay 29 = .ok (.aload_n 2, 1) := by decide +kernel
theorem dX6_pay_30 : decode cX6_pay 30 = .ok (.invokevirtual 239, 3) := by decide +kernel
theorem dX6_pay_33 : decode cX6_pay 33 = .ok (.putfield 244, 3) := by decide +kernel
theorem dX6_pay_36 : decode cX6_pay 36 = .ok (.aload_n 2, 1) := by decide +kernel
theorem dX6_pay_37 : decode cX6_pay 37 = .ok (.getfield 244, 3) := by decide +kernel
theorem dX6_pay_40 : decode cX6_pay 40 = .ok (.ireturn, 1) := by decide +kernel
theorem dX6_takeBack_0 : decode cX6_takeBack 0 = .ok (.aload_n 0, 1) := by decide +kernel
theorem dX6_takeBack_1 : decode cX6_takeBack 1 = .ok (.iload_n 1, 1) := by decide +kernel
theorem dX6_takeBack_2 : decode cX6_takeBack 2 = .ok (.invokevirtual 219, 3) := by decide +kernel
theorem dX6_takeBack_5 : decode cX6_takeBack 5 = .ok (.astore_n 2, 1) := by decide +kernel
theorem dX6_takeBack_6 : decode cX6_takeBack 6 = .ok (.aload_n 2, 1) := by decide +kernel
theorem dX6_takeBack_7 : decode cX6_takeBack 7 = .ok (.getfield 223, 3) := by decide +kernel
theorem dX6_takeBack_10 : decode cX6_takeBack 10 = .ok (.iconst 3, 1) := by decide +kernel
theorem dX6_takeBack_11 : decode cX6_takeBack 11 = .ok (.if_icmp .eq 13, 3) := by decide +kernel
theorem dX6_takeBack_14 : decode cX6_takeBack 14 = .ok (.new 63, 3) := by decide +kernel
theorem dX6_takeBack_17 : decode cX6_takeBack 17 = .ok (.dup, 1) := by decide +kernel
theorem dX6_takeBack_18 : decode cX6_takeBack 18 = .ok (.ldc 247, 2) := by decide +kernel
theorem dX6_takeBack_20 : decode cX6_takeBack 20 = .ok (.invokespecial 67, 3) := by decide +kernel
theorem dX6_takeBack_23 : decode cX6_takeBack 23 = .ok (.athrow, 1) := by decide +kernel
theorem dX6_takeBack_24 : decode cX6_takeBack 24 = .ok (.aload_n 2, 1) := by decide +kernel
theorem dX6_takeBack_25 : decode cX6_takeBack 25 = .ok (.getfield 244, 3) := by decide +kernel
theorem dX6_takeBack_28 : decode cX6_takeBack 28 = .ok (.istore_n 3, 1) := by decide +kernel
theorem dX6_takeBack_29 : decode cX6_takeBack 29 = .ok (.aload_n 2, 1) := by decide +kernel
theorem dX6_takeBack_30 : decode cX6_takeBack 30 = .ok (.iconst 2, 1) := by decide +kernel
theorem dX6_takeBack_31 : decode cX6_takeBack 31 = .ok (.putfield 223, 3) := by decide +kernel
theorem dX6_takeBack_34 : decode cX6_takeBack 34 = .ok (.aload_n 2, 1) := by decide +kernel
theorem dX6_takeBack_35 : decode cX6_takeBack 35 = .ok (.iconst 0, 1) := by decide +kernel
theorem dX6_takeBack_36 : decode cX6_takeBack 36 = .ok (.putfield 244, 3) := by decide +kernel
theorem dX6_takeBack_39 : decode cX6_takeBack 39 = .ok (.iload_n 3, 1) := by decide +kernel
theorem dX6_takeBack_40 : decode cX6_takeBack 40 = .ok (.ireturn, 1) := by decide +kernel
theorem dX6_wages_0 : decode cX6_wages 0 = .ok (.aload_n 0, 1) := by decide +kernel
theorem dX6_wages_1 : decode cX6_wages 1 = .ok (.iload_n 1, 1) := by decide +kernel
theorem dX6_wages_2 : decode cX6_wages 2 = .ok (.invokevirtual 68, 3) := by decide +kernel
theorem dX6_wages_5 : decode cX6_wages 5 = .ok (.astore_n 2, 1) := by decide +kernel
theorem dX6_wages_6 : decode cX6_wages 6 = .ok (.aload_n 2, 1) := by decide +kernel
theorem dX6_wages_7 : decode cX6_wages 7 = .ok (.aload_n 0, 1) := by decide +kernel
theorem dX6_wages_8 : decode cX6_wages 8 = .ok (.getfield 59, 3) := by decide +kernel
theorem dX6_wages_11 : decode cX6_wages 11 = .ok (.invokevirtual 249, 3) := by decide +kernel
theorem dX6_wages_14 : decode cX6_wages 14 = .ok (.aload_n 2, 1) := by decide +kernel
theorem dX6_wages_15 : decode cX6_wages 15 = .ok (.getfield 74, 3) := by decide +kernel
theorem dX6_wages_18 : decode cX6_wages 18 = .ok (.imul, 1) := by decide +kernel
theorem dX6_wages_19 : decode cX6_wages 19 = .ok (.istore_n 3, 1) := by decide +kernel
theorem dX6_wages_20 : decode cX6_wages 20 = .ok (.aload_n 0, 1) := by decide +kernel
theorem dX6_wages_21 : decode cX6_wages 21 = .ok (.getfield 29, 3) := by decide +kernel
theorem dX6_wages_24 : decode cX6_wages 24 = .ok (.astore 4, 2) := by decide +kernel
theorem dX6_wages_26 : decode cX6_wages 26 = .ok (.aload 4, 2) := by decide +kernel
theorem dX6_wages_28 : decode cX6_wages 28 = .ok (.arraylength, 1) := by decide +kernel
theorem dX6_wages_29 : decode cX6_wages 29 = .ok (.istore 5, 2) := by decide +kernel
theorem dX6_wages_31 : decode cX6_wages 31 = .ok (.iconst 0, 1) := by decide +kernel
theorem dX6_wages_32 : decode cX6_wages 32 = .ok (.istore 6, 2) := by decide +kernel
theorem dX6_wages_34 : decode cX6_wages 34 = .ok (.iload 6, 2) := by decide +kernel
theorem dX6_wages_36 : decode cX6_wages 36 = .ok (.iload 5, 2) := by decide +kernel
theorem dX6_wages_38 : decode cX6_wages 38 = .ok (.if_icmp .ge 38, 3) := by decide +kernel
theorem dX6_wages_41 : decode cX6_wages 41 = .ok (.aload 4, 2) := by decide +kernel
theorem dX6_wages_43 : decode cX6_wages 43 = .ok (.iload 6, 2) := by decide +kernel
theorem dX6_wages_45 : decode cX6_wages 45 = .ok (.aaload, 1) := by decide +kernel
theorem dX6_wages_46 : decode cX6_wages 46 = .ok (.astore 7, 2) := by decide +kernel
theorem dX6_wages_48 : decode cX6_wages 48 = .ok (.aload 7, 2) := by decide +kernel
theorem dX6_wages_50 : decode cX6_wages 50 = .ok (.ifnull 20, 3) := by decide +kernel
theorem dX6_wages_53 : decode cX6_wages 53 = .ok (.aload 7, 2) := by decide +kernel
theorem dX6_wages_55 : decode cX6_wages 55 = .ok (.getfield 226, 3) := by decide +kernel
theorem dX6_wages_58 : decode cX6_wages 58 = .ok (.aload_n 2, 1) := by decide +kernel
theorem dX6_wages_59 : decode cX6_wages 59 = .ok (.if_acmp .ne 11, 3) := by decide +kernel
theorem dX6_wages_62 : decode cX6_wages 62 = .ok (.iload_n 3, 1) := by decide +kernel
theorem dX6_wages_63 : decode cX6_wages 63 = .ok (.aload 7, 2) := by decide +kernel
theorem dX6_wages_65 : decode cX6_wages 65 = .ok (.getfield 244, 3) := by decide +kernel
theorem dX6_wages_68 : decode cX6_wages 68 = .ok (.iadd, 1) := by decide +kernel
theorem dX6_wages_69 : decode cX6_wages 69 = .ok (.istore_n 3, 1) := by decide +kernel
theorem dX6_wages_70 : decode cX6_wages 70 = .ok (.iinc 6 1, 3) := by decide +kernel
theorem dX6_wages_73 : decode cX6_wages 73 = .ok (.goto (-39), 3) := by decide +kernel
theorem dX6_wages_76 : decode cX6_wages 76 = .ok (.iload_n 3, 1) := by decide +kernel
theorem dX6_wages_77 : decode cX6_wages 77 = .ok (.ireturn, 1) := by decide +kernel
theorem dX6_offer_0 : decode cX6_offer 0 = .ok (.aload_n 0, 1) := by decide +kernel
theorem dX6_offer_1 : decode cX6_offer 1 = .ok (.iload_n 1, 1) := by decide +kernel
theorem dX6_offer_2 : decode cX6_offer 2 = .ok (.invokevirtual 90, 3) := by decide +kernel
theorem dX6_offer_5 : decode cX6_offer 5 = .ok (.astore_n 3, 1) := by decide +kernel
theorem dX6_offer_6 : decode cX6_offer 6 = .ok (.aload_n 0, 1) := by decide +kernel
theorem dX6_offer_7 : decode cX6_offer 7 = .ok (.iload_n 2, 1) := by decide +kernel
theorem dX6_offer_8 : decode cX6_offer 8 = .ok (.invokevirtual 90, 3) := by decide +kernel
theorem dX6_offer_11 : decode cX6_offer 11 = .ok (.astore 4, 2) := by decide +kernel
theorem dX6_offer_13 : decode cX6_offer 13 = .ok (.aload_n 3, 1) := by decide +kernel
theorem dX6_offer_14 : decode cX6_offer 14 = .ok (.getfield 104, 3) := by decide +kernel
theorem dX6_offer_17 : decode cX6_offer 17 = .ok (.astore 5, 2) := by decide +kernel
theorem dX6_offer_19 : decode cX6_offer 19 = .ok (.aload 5, 2) := by decide +kernel
theorem dX6_offer_21 : decode cX6_offer 21 = .ok (.ifnull 38, 3) := by decide +kernel
theorem dX6_offer_24 : decode cX6_offer 24 = .ok (.aload 4, 2) := by decide +kernel
theorem dX6_offer_26 : decode cX6_offer 26 = .ok (.getfield 104, 3) := by decide +kernel
theorem dX6_offer_29 : decode cX6_offer 29 = .ok (.ifnull 30, 3) := by decide +kernel
theorem dX6_offer_32 : decode cX6_offer 32 = .ok (.aload 5, 2) := by decide +kernel
theorem dX6_offer_34 : decode cX6_offer 34 = .ok (.aload 4, 2) := by decide +kernel
theorem dX6_offer_36 : decode cX6_offer 36 = .ok (.getfield 104, 3) := by decide +kernel
theorem dX6_offer_39 : decode cX6_offer 39 = .ok (.if_acmp .eq 20, 3) := by decide +kernel
theorem dX6_offer_42 : decode cX6_offer 42 = .ok (.aload_n 0, 1) := by decide +kernel
theorem dX6_offer_43 : decode cX6_offer 43 = .ok (.aload_n 3, 1) := by decide +kernel
theorem dX6_offer_44 : decode cX6_offer 44 = .ok (.invokevirtual 253, 3) := by decide +kernel
theorem dX6_offer_47 : decode cX6_offer 47 = .ok (.ifCond .eq 12, 3) := by decide +kernel
theorem dX6_offer_50 : decode cX6_offer 50 = .ok (.aload_n 0, 1) := by decide +kernel
theorem dX6_offer_51 : decode cX6_offer 51 = .ok (.aload 4, 2) := by decide +kernel
theorem dX6_offer_53 : decode cX6_offer 53 = .ok (.invokevirtual 253, 3) := by decide +kernel
theorem dX6_offer_56 : decode cX6_offer 56 = .ok (.ifCond .ne 14, 3) := by decide +kernel
theorem dX6_offer_59 : decode cX6_offer 59 = .ok (.new 63, 3) := by decide +kernel
theorem dX6_offer_62 : decode cX6_offer 62 = .ok (.dup, 1) := by decide +kernel
theorem dX6_offer_63 : decode cX6_offer 63 = .ok (.ldc_w 256, 3) := by decide +kernel
theorem dX6_offer_66 : decode cX6_offer 66 = .ok (.invokespecial 67, 3) := by decide +kernel
theorem dX6_offer_69 : decode cX6_offer 69 = .ok (.athrow, 1) := by decide +kernel
theorem dX6_offer_70 : decode cX6_offer 70 = .ok (.aload_n 0, 1) := by decide +kernel
theorem dX6_offer_71 : decode cX6_offer 71 = .ok (.getfield 258, 3) := by decide +kernel
theorem dX6_offer_74 : decode cX6_offer 74 = .ok (.aload_n 0, 1) := by decide +kernel
theorem dX6_offer_75 : decode cX6_offer 75 = .ok (.getfield 35, 3) := by decide +kernel
theorem dX6_offer_78 : decode cX6_offer 78 = .ok (.arraylength, 1) := by decide +kernel
theorem dX6_offer_79 : decode cX6_offer 79 = .ok (.if_icmp .lt 14, 3) := by decide +kernel
theorem dX6_offer_82 : decode cX6_offer 82 = .ok (.new 63, 3) := by decide +kernel
theorem dX6_offer_85 : decode cX6_offer 85 = .ok (.dup, 1) := by decide +kernel
theorem dX6_offer_86 : decode cX6_offer 86 = .ok (.ldc_w 261, 3) := by decide +kernel
theorem dX6_offer_89 : decode cX6_offer 89 = .ok (.invokespecial 67, 3) := by decide +kernel
theorem dX6_offer_92 : decode cX6_offer 92 = .ok (.athrow, 1) := by decide +kernel
theorem dX6_offer_93 : decode cX6_offer 93 = .ok (.aload_n 0, 1) := by decide +kernel
theorem dX6_offer_94 : decode cX6_offer 94 = .ok (.getfield 258, 3) := by decide +kernel
theorem dX6_offer_97 : decode cX6_offer 97 = .ok (.istore 6, 2) := by decide +kernel
theorem dX6_offer_99 : decode cX6_offer 99 = .ok (.aload_n 0, 1) := by decide +kernel
theorem dX6_offer_100 : decode cX6_offer 100 = .ok (.getfield 35, 3) := by decide +kernel
theorem dX6_offer_103 : decode cX6_offer 103 = .ok (.iload 6, 2) := by decide +kernel
theorem dX6_offer_105 : decode cX6_offer 105 = .ok (.new 33, 3) := by decide +kernel
theorem dX6_offer_108 : decode cX6_offer 108 = .ok (.dup, 1) := by decide +kernel
theorem dX6_offer_109 : decode cX6_offer 109 = .ok (.aload 5, 2) := by decide +kernel
theorem dX6_offer_111 : decode cX6_offer 111 = .ok (.aload_n 3, 1) := by decide +kernel
theorem dX6_offer_112 : decode cX6_offer 112 = .ok (.aload 4, 2) := by decide +kernel
theorem dX6_offer_114 : decode cX6_offer 114 = .ok (.invokespecial 263, 3) := by decide +kernel
theorem dX6_offer_117 : decode cX6_offer 117 = .ok (.aastore, 1) := by decide +kernel
theorem dX6_offer_118 : decode cX6_offer 118 = .ok (.aload_n 0, 1) := by decide +kernel
theorem dX6_offer_119 : decode cX6_offer 119 = .ok (.dup, 1) := by decide +kernel
theorem dX6_offer_120 : decode cX6_offer 120 = .ok (.getfield 258, 3) := by decide +kernel
theorem dX6_offer_123 : decode cX6_offer 123 = .ok (.iconst 1, 1) := by decide +kernel
theorem dX6_offer_124 : decode cX6_offer 124 = .ok (.iadd, 1) := by decide +kernel
theorem dX6_offer_125 : decode cX6_offer 125 = .ok (.putfield 258, 3) := by decide +kernel
theorem dX6_offer_128 : decode cX6_offer 128 = .ok (.iload 6, 2) := by decide +kernel
theorem dX6_offer_130 : decode cX6_offer 130 = .ok (.ireturn, 1) := by decide +kernel
theorem dX6_withdraw_0 : decode cX6_withdraw 0 = .ok (.aload_n 0, 1) := by decide +kernel
theorem dX6_withdraw_1 : decode cX6_withdraw 1 = .ok (.iload_n 1, 1) := by decide +kernel
theorem dX6_withdraw_2 : decode cX6_withdraw 2 = .ok (.invokevirtual 266, 3) := by decide +kernel
theorem dX6_withdraw_5 : decode cX6_withdraw 5 = .ok (.astore_n 2, 1) := by decide +kernel
theorem dX6_withdraw_6 : decode cX6_withdraw 6 = .ok (.aload_n 2, 1) := by decide +kernel
theorem dX6_withdraw_7 : decode cX6_withdraw 7 = .ok (.getfield 270, 3) := by decide +kernel
theorem dX6_withdraw_10 : decode cX6_withdraw 10 = .ok (.ifCond .ne 14, 3) := by decide +kernel
theorem dX6_withdraw_13 : decode cX6_withdraw 13 = .ok (.new 63, 3) := by decide +kernel
theorem dX6_withdraw_16 : decode cX6_withdraw 16 = .ok (.dup, 1) := by decide +kernel
theorem dX6_withdraw_17 : decode cX6_withdraw 17 = .ok (.ldc_w 273, 3) := by decide +kernel
theorem dX6_withdraw_20 : decode cX6_withdraw 20 = .ok (.invokespecial 67, 3) := by decide +kernel
theorem dX6_withdraw_23 : decode cX6_withdraw 23 = .ok (.athrow, 1) := by decide +kernel
theorem dX6_withdraw_24 : decode cX6_withdraw 24 = .ok (.aload_n 2, 1) := by decide +kernel
theorem dX6_withdraw_25 : decode cX6_withdraw 25 = .ok (.iconst 0, 1) := by decide +kernel
theorem dX6_withdraw_26 : decode cX6_withdraw 26 = .ok (.putfield 270, 3) := by decide +kernel
theorem dX6_withdraw_29 : decode cX6_withdraw 29 = .ok (.aload_n 0, 1) := by decide +kernel
theorem dX6_withdraw_30 : decode cX6_withdraw 30 = .ok (.invokevirtual 275, 3) := by decide +kernel
theorem dX6_withdraw_33 : decode cX6_withdraw 33 = .ok (.ireturn, 1) := by decide +kernel
theorem dX6_offers_0 : decode cX6_offers 0 = .ok (.aload_n 0, 1) := by decide +kernel
theorem dX6_offers_1 : decode cX6_offers 1 = .ok (.invokevirtual 275, 3) := by decide +kernel
theorem dX6_offers_4 : decode cX6_offers 4 = .ok (.ireturn, 1) := by decide +kernel
theorem dX6_ring_0 : decode cX6_ring 0 = .ok (.aload_n 0, 1) := by decide +kernel
theorem dX6_ring_1 : decode cX6_ring 1 = .ok (.aload_n 0, 1) := by decide +kernel
theorem dX6_ring_2 : decode cX6_ring 2 = .ok (.iload_n 1, 1) := by decide +kernel
theorem dX6_ring_3 : decode cX6_ring 3 = .ok (.invokevirtual 266, 3) := by decide +kernel
theorem dX6_ring_6 : decode cX6_ring 6 = .ok (.invokevirtual 278, 3) := by decide +kernel
theorem dX6_ring_9 : decode cX6_ring 9 = .ok (.ireturn, 1) := by decide +kernel
theorem dX6_swap_0 : decode cX6_swap 0 = .ok (.aload_n 0, 1) := by decide +kernel
theorem dX6_swap_1 : decode cX6_swap 1 = .ok (.aload_n 0, 1) := by decide +kernel
theorem dX6_swap_2 : decode cX6_swap 2 = .ok (.iload_n 1, 1) := by decide +kernel
theorem dX6_swap_3 : decode cX6_swap 3 = .ok (.invokevirtual 266, 3) := by decide +kernel
theorem dX6_swap_6 : decode cX6_swap 6 = .ok (.invokevirtual 278, 3) := by decide +kernel
theorem dX6_swap_9 : decode cX6_swap 9 = .ok (.ifCond .eq 10, 3) := by decide +kernel
theorem dX6_swap_12 : decode cX6_swap 12 = .ok (.aload_n 0, 1) := by decide +kernel
theorem dX6_swap_13 : decode cX6_swap 13 = .ok (.invokevirtual 282, 3) := by decide +kernel
theorem dX6_swap_16 : decode cX6_swap 16 = .ok (.ifCond .ne 14, 3) := by decide +kernel
theorem dX6_swap_19 : decode cX6_swap 19 = .ok (.new 63, 3) := by decide +kernel
theorem dX6_swap_22 : decode cX6_swap 22 = .ok (.dup, 1) := by decide +kernel
theorem dX6_swap_23 : decode cX6_swap 23 = .ok (.ldc_w 285, 3) := by decide +kernel
theorem dX6_swap_26 : decode cX6_swap 26 = .ok (.invokespecial 67, 3) := by decide +kernel
theorem dX6_swap_29 : decode cX6_swap 29 = .ok (.athrow, 1) := by decide +kernel
theorem dX6_swap_30 : decode cX6_swap 30 = .ok (.aload_n 0, 1) := by decide +kernel
theorem dX6_swap_31 : decode cX6_swap 31 = .ok (.getfield 216, 3) := by decide +kernel
theorem dX6_swap_34 : decode cX6_swap 34 = .ok (.istore_n 2, 1) := by decide +kernel
theorem dX6_swap_35 : decode cX6_swap 35 = .ok (.aload_n 0, 1) := by decide +kernel
theorem dX6_swap_36 : decode cX6_swap 36 = .ok (.getfield 39, 3) := by decide +kernel
theorem dX6_swap_39 : decode cX6_swap 39 = .ok (.astore_n 3, 1) := by decide +kernel
theorem dX6_swap_40 : decode cX6_swap 40 = .ok (.aload_n 3, 1) := by decide +kernel
theorem dX6_swap_41 : decode cX6_swap 41 = .ok (.arraylength, 1) := by decide +kernel
theorem dX6_swap_42 : decode cX6_swap 42 = .ok (.istore 4, 2) := by decide +kernel
theorem dX6_swap_44 : decode cX6_swap 44 = .ok (.iconst 0, 1) := by decide +kernel
theorem dX6_swap_45 : decode cX6_swap 45 = .ok (.istore 5, 2) := by decide +kernel
theorem dX6_swap_47 : decode cX6_swap 47 = .ok (.iload 5, 2) := by decide +kernel
theorem dX6_swap_49 : decode cX6_swap 49 = .ok (.iload 4, 2) := by decide +kernel
theorem dX6_swap_51 : decode cX6_swap 51 = .ok (.if_icmp .ge 34, 3) := by decide +kernel
theorem dX6_swap_54 : decode cX6_swap 54 = .ok (.aload_n 3, 1) := by decide +kernel
theorem dX6_swap_55 : decode cX6_swap 55 = .ok (.iload 5, 2) := by decide +kernel
theorem dX6_swap_57 : decode cX6_swap 57 = .ok (.aaload, 1) := by decide +kernel
theorem dX6_swap_58 : decode cX6_swap 58 = .ok (.astore 6, 2) := by decide +kernel
theorem dX6_swap_60 : decode cX6_swap 60 = .ok (.aload 6, 2) := by decide +kernel
theorem dX6_swap_62 : decode cX6_swap 62 = .ok (.ifnull 17, 3) := by decide +kernel
theorem dX6_swap_65 : decode cX6_swap 65 = .ok (.aload_n 0, 1) := by decide +kernel
theorem dX6_swap_66 : decode cX6_swap 66 = .ok (.aload 6, 2) := by decide +kernel
theorem dX6_swap_68 : decode cX6_swap 68 = .ok (.getfield 287, 3) := by decide +kernel
theorem dX6_swap_71 : decode cX6_swap 71 = .ok (.aload 6, 2) := by decide +kernel
theorem dX6_swap_73 : decode cX6_swap 73 = .ok (.getfield 290, 3) := by decide +kernel
theorem dX6_swap_76 : decode cX6_swap 76 = .ok (.invokevirtual 108, 3) := by decide +kernel
theorem dX6_swap_79 : decode cX6_swap 79 = .ok (.iinc 5 1, 3) := by decide +kernel
theorem dX6_swap_82 : decode cX6_swap 82 = .ok (.goto (-35), 3) := by decide +kernel
theorem dX6_swap_85 : decode cX6_swap 85 = .ok (.aload_n 0, 1) := by decide +kernel
theorem dX6_swap_86 : decode cX6_swap 86 = .ok (.invokevirtual 112, 3) := by decide +kernel
theorem dX6_swap_89 : decode cX6_swap 89 = .ok (.pop, 1) := by decide +kernel
theorem dX6_swap_90 : decode cX6_swap 90 = .ok (.aload_n 0, 1) := by decide +kernel
theorem dX6_swap_91 : decode cX6_swap 91 = .ok (.getfield 216, 3) := by decide +kernel
theorem dX6_swap_94 : decode cX6_swap 94 = .ok (.iload_n 2, 1) := by decide +kernel
theorem dX6_swap_95 : decode cX6_swap 95 = .ok (.isub, 1) := by decide +kernel
theorem dX6_swap_96 : decode cX6_swap 96 = .ok (.ireturn, 1) := by decide +kernel
theorem dX6_theWorker_0 : decode cX6_theWorker 0 = .ok (.iload_n 1, 1) := by decide +kernel
theorem dX6_theWorker_1 : decode cX6_theWorker 1 = .ok (.ifCond .lt 12, 3) := by decide +kernel
theorem dX6_theWorker_4 : decode cX6_theWorker 4 = .ok (.iload_n 1, 1) := by decide +kernel
theorem dX6_theWorker_5 : decode cX6_theWorker 5 = .ok (.aload_n 0, 1) := by decide +kernel
theorem dX6_theWorker_6 : decode cX6_theWorker 6 = .ok (.getfield 11, 3) := by decide +kernel
theorem dX6_theWorker_9 : decode cX6_theWorker 9 = .ok (.arraylength, 1) := by decide +kernel
theorem dX6_theWorker_10 : decode cX6_theWorker 10 = .ok (.if_icmp .lt 7, 3) := by decide +kernel
theorem dX6_theWorker_13 : decode cX6_theWorker 13 = .ok (.aconst_null, 1) := by decide +kernel
theorem dX6_theWorker_14 : decode cX6_theWorker 14 = .ok (.goto 9, 3) := by decide +kernel
theorem dX6_theWorker_17 : decode cX6_theWorker 17 = .ok (.aload_n 0, 1) := by decide +kernel
theorem dX6_theWorker_18 : decode cX6_theWorker 18 = .ok (.getfield 11, 3) := by decide +kernel
theorem dX6_theWorker_21 : decode cX6_theWorker 21 = .ok (.iload_n 1, 1) := by decide +kernel
theorem dX6_theWorker_22 : decode cX6_theWorker 22 = .ok (.aaload, 1) := by decide +kernel
theorem dX6_theWorker_23 : decode cX6_theWorker 23 = .ok (.astore_n 2, 1) := by decide +kernel
theorem dX6_theWorker_24 : decode cX6_theWorker 24 = .ok (.aload_n 2, 1) := by decide +kernel
theorem dX6_theWorker_25 : decode cX6_theWorker 25 = .ok (.ifnonnull 14, 3) := by decide +kernel
theorem dX6_theWorker_28 : decode cX6_theWorker 28 = .ok (.new 144, 3) := by decide +kernel
theorem dX6_theWorker_31 : decode cX6_theWorker 31 = .ok (.dup, 1) := by decide +kernel
theorem dX6_theWorker_32 : decode cX6_theWorker 32 = .ok (.ldc_w 291, 3) := by decide +kernel
theorem dX6_theWorker_35 : decode cX6_theWorker 35 = .ok (.invokespecial 148, 3) := by decide +kernel
theorem dX6_theWorker_38 : decode cX6_theWorker 38 = .ok (.athrow, 1) := by decide +kernel
theorem dX6_theWorker_39 : decode cX6_theWorker 39 = .ok (.aload_n 2, 1) := by decide +kernel
theorem dX6_theWorker_40 : decode cX6_theWorker 40 = .ok (.areturn, 1) := by decide +kernel
theorem dX6_theShift_0 : decode cX6_theShift 0 = .ok (.iload_n 1, 1) := by decide +kernel
theorem dX6_theShift_1 : decode cX6_theShift 1 = .ok (.ifCond .lt 12, 3) := by decide +kernel
theorem dX6_theShift_4 : decode cX6_theShift 4 = .ok (.iload_n 1, 1) := by decide +kernel
theorem dX6_theShift_5 : decode cX6_theShift 5 = .ok (.aload_n 0, 1) := by decide +kernel
theorem dX6_theShift_6 : decode cX6_theShift 6 = .ok (.getfield 17, 3) := by decide +kernel
theorem dX6_theShift_9 : decode cX6_theShift 9 = .ok (.arraylength, 1) := by decide +kernel
theorem dX6_theShift_10 : decode cX6_theShift 10 = .ok (.if_icmp .lt 7, 3) := by decide +kernel
theorem dX6_theShift_13 : decode cX6_theShift 13 = .ok (.aconst_null, 1) := by decide +kernel
theorem dX6_theShift_14 : decode cX6_theShift 14 = .ok (.goto 9, 3) := by decide +kernel
theorem dX6_theShift_17 : decode cX6_theShift 17 = .ok (.aload_n 0, 1) := by decide +kernel
theorem dX6_theShift_18 : decode cX6_theShift 18 = .ok (.getfield 17, 3) := by decide +kernel
theorem dX6_theShift_21 : decode cX6_theShift 21 = .ok (.iload_n 1, 1) := by decide +kernel
theorem dX6_theShift_22 : decode cX6_theShift 22 = .ok (.aaload, 1) := by decide +kernel
theorem dX6_theShift_23 : decode cX6_theShift 23 = .ok (.astore_n 2, 1) := by decide +kernel
theorem dX6_theShift_24 : decode cX6_theShift 24 = .ok (.aload_n 2, 1) := by decide +kernel
theorem dX6_theShift_25 : decode cX6_theShift 25 = .ok (.ifnonnull 14, 3) := by decide +kernel
theorem dX6_theShift_28 : decode cX6_theShift 28 = .ok (.new 144, 3) := by decide +kernel
theorem dX6_theShift_31 : decode cX6_theShift 31 = .ok (.dup, 1) := by decide +kernel
theorem dX6_theShift_32 : decode cX6_theShift 32 = .ok (.ldc_w 293, 3) := by decide +kernel
theorem dX6_theShift_35 : decode cX6_theShift 35 = .ok (.invokespecial 148, 3) := by decide +kernel
theorem dX6_theShift_38 : decode cX6_theShift 38 = .ok (.athrow, 1) := by decide +kernel
theorem dX6_theShift_39 : decode cX6_theShift 39 = .ok (.aload_n 2, 1) := by decide +kernel
theorem dX6_theShift_40 : decode cX6_theShift 40 = .ok (.areturn, 1) := by decide +kernel
theorem dX6_theRule_0 : decode cX6_theRule 0 = .ok (.iload_n 1, 1) := by decide +kernel
theorem dX6_theRule_1 : decode cX6_theRule 1 = .ok (.ifCond .lt 12, 3) := by decide +kernel
theorem dX6_theRule_4 : decode cX6_theRule 4 = .ok (.iload_n 1, 1) := by decide +kernel
theorem dX6_theRule_5 : decode cX6_theRule 5 = .ok (.aload_n 0, 1) := by decide +kernel
theorem dX6_theRule_6 : decode cX6_theRule 6 = .ok (.getfield 23, 3) := by decide +kernel
theorem dX6_theRule_9 : decode cX6_theRule 9 = .ok (.arraylength, 1) := by decide +kernel
theorem dX6_theRule_10 : decode cX6_theRule 10 = .ok (.if_icmp .lt 7, 3) := by decide +kernel
theorem dX6_theRule_13 : decode cX6_theRule 13 = .ok (.aconst_null, 1) := by decide +kernel
theorem dX6_theRule_14 : decode cX6_theRule 14 = .ok (.goto 9, 3) := by decide +kernel
theorem dX6_theRule_17 : decode cX6_theRule 17 = .ok (.aload_n 0, 1) := by decide +kernel
theorem dX6_theRule_18 : decode cX6_theRule 18 = .ok (.getfield 23, 3) := by decide +kernel
theorem dX6_theRule_21 : decode cX6_theRule 21 = .ok (.iload_n 1, 1) := by decide +kernel
theorem dX6_theRule_22 : decode cX6_theRule 22 = .ok (.aaload, 1) := by decide +kernel
theorem dX6_theRule_23 : decode cX6_theRule 23 = .ok (.astore_n 2, 1) := by decide +kernel
theorem dX6_theRule_24 : decode cX6_theRule 24 = .ok (.aload_n 2, 1) := by decide +kernel
theorem dX6_theRule_25 : decode cX6_theRule 25 = .ok (.ifnonnull 14, 3) := by decide +kernel
theorem dX6_theRule_28 : decode cX6_theRule 28 = .ok (.new 144, 3) := by decide +kernel
theorem dX6_theRule_31 : decode cX6_theRule 31 = .ok (.dup, 1) := by decide +kernel
theorem dX6_theRule_32 : decode cX6_theRule 32 = .ok (.ldc_w 295, 3) := by decide +kernel
theorem dX6_theRule_35 : decode cX6_theRule 35 = .ok (.invokespecial 148, 3) := by decide +kernel
theorem dX6_theRule_38 : decode cX6_theRule 38 = .ok (.athrow, 1) := by decide +kernel
theorem dX6_theRule_39 : decode cX6_theRule 39 = .ok (.aload_n 2, 1) := by decide +kernel
theorem dX6_theRule_40 : decode cX6_theRule 40 = .ok (.areturn, 1) := by decide +kernel
theorem dX6_theClaim_0 : decode cX6_theClaim 0 = .ok (.iload_n 1, 1) := by decide +kernel
theorem dX6_theClaim_1 : decode cX6_theClaim 1 = .ok (.ifCond .lt 12, 3) := by decide +kernel
theorem dX6_theClaim_4 : decode cX6_theClaim 4 = .ok (.iload_n 1, 1) := by decide +kernel
theorem dX6_theClaim_5 : decode cX6_theClaim 5 = .ok (.aload_n 0, 1) := by decide +kernel
theorem dX6_theClaim_6 : decode cX6_theClaim 6 = .ok (.getfield 29, 3) := by decide +kernel
theorem dX6_theClaim_9 : decode cX6_theClaim 9 = .ok (.arraylength, 1) := by decide +kernel
theorem dX6_theClaim_10 : decode cX6_theClaim 10 = .ok (.if_icmp .lt 7, 3) := by decide +kernel
theorem dX6_theClaim_13 : decode cX6_theClaim 13 = .ok (.aconst_null, 1) := by decide +kernel
theorem dX6_theClaim_14 : decode cX6_theClaim 14 = .ok (.goto 9, 3) := by decide +kernel
theorem dX6_theClaim_17 : decode cX6_theClaim 17 = .ok (.aload_n 0, 1) := by decide +kernel
theorem dX6_theClaim_18 : decode cX6_theClaim 18 = .ok (.getfield 29, 3) := by decide +kernel
theorem dX6_theClaim_21 : decode cX6_theClaim 21 = .ok (.iload_n 1, 1) := by decide +kernel
theorem dX6_theClaim_22 : decode cX6_theClaim 22 = .ok (.aaload, 1) := by decide +kernel
theorem dX6_theClaim_23 : decode cX6_theClaim 23 = .ok (.astore_n 2, 1) := by decide +kernel
theorem dX6_theClaim_24 : decode cX6_theClaim 24 = .ok (.aload_n 2, 1) := by decide +kernel
theorem dX6_theClaim_25 : decode cX6_theClaim 25 = .ok (.ifnonnull 14, 3) := by decide +kernel
theorem dX6_theClaim_28 : decode cX6_theClaim 28 = .ok (.new 144, 3) := by decide +kernel
theorem dX6_theClaim_31 : decode cX6_theClaim 31 = .ok (.dup, 1) := by decide +kernel
theorem dX6_theClaim_32 : decode cX6_theClaim 32 = .ok (.ldc_w 297, 3) := by decide +kernel
theorem dX6_theClaim_35 : decode cX6_theClaim 35 = .ok (.invokespecial 148, 3) := by decide +kernel
theorem dX6_theClaim_38 : decode cX6_theClaim 38 = .ok (.athrow, 1) := by decide +kernel
theorem dX6_theClaim_39 : decode cX6_theClaim 39 = .ok (.aload_n 2, 1) := by decide +kernel
theorem dX6_theClaim_40 : decode cX6_theClaim 40 = .ok (.areturn, 1) := by decide +kernel
theorem dX6_theOffer_0 : decode cX6_theOffer 0 = .ok (.iload_n 1, 1) := by decide +kernel
theorem dX6_theOffer_1 : decode cX6_theOffer 1 = .ok (.ifCond .lt 12, 3) := by decide +kernel
theorem dX6_theOffer_4 : decode cX6_theOffer 4 = .ok (.iload_n 1, 1) := by decide +kernel
theorem dX6_theOffer_5 : decode cX6_theOffer 5 = .ok (.aload_n 0, 1) := by decide +kernel
theorem dX6_theOffer_6 : decode cX6_theOffer 6 = .ok (.getfield 35, 3) := by decide +kernel
theorem dX6_theOffer_9 : decode cX6_theOffer 9 = .ok (.arraylength, 1) := by decide +kernel
theorem dX6_theOffer_10 : decode cX6_theOffer 10 = .ok (.if_icmp .lt 7, 3) := by decide +kernel
theorem dX6_theOffer_13 : decode cX6_theOffer 13 = .ok (.aconst_null, 1) := by decide +kernel
theorem dX6_theOffer_14 : decode cX6_theOffer 14 = .ok (.goto 9, 3) := by decide +kernel
theorem dX6_theOffer_17 : decode cX6_theOffer 17 = .ok (.aload_n 0, 1) := by decide +kernel
theorem dX6_theOffer_18 : decode cX6_theOffer 18 = .ok (.getfield 35, 3) := by decide +kernel
theorem dX6_theOffer_21 : decode cX6_theOffer 21 = .ok (.iload_n 1, 1) := by decide +kernel
theorem dX6_theOffer_22 : decode cX6_theOffer 22 = .ok (.aaload, 1) := by decide +kernel
theorem dX6_theOffer_23 : decode cX6_theOffer 23 = .ok (.astore_n 2, 1) := by decide +kernel
theorem dX6_theOffer_24 : decode cX6_theOffer 24 = .ok (.aload_n 2, 1) := by decide +kernel
theorem dX6_theOffer_25 : decode cX6_theOffer 25 = .ok (.ifnonnull 14, 3) := by decide +kernel
theorem dX6_theOffer_28 : decode cX6_theOffer 28 = .ok (.new 144, 3) := by decide +kernel
theorem dX6_theOffer_31 : decode cX6_theOffer 31 = .ok (.dup, 1) := by decide +kernel
theorem dX6_theOffer_32 : decode cX6_theOffer 32 = .ok (.ldc_w 299, 3) := by decide +kernel
theorem dX6_theOffer_35 : decode cX6_theOffer 35 = .ok (.invokespecial 148, 3) := by decide +kernel
theorem dX6_theOffer_38 : decode cX6_theOffer 38 = .ok (.athrow, 1) := by decide +kernel
theorem dX6_theOffer_39 : decode cX6_theOffer 39 = .ok (.aload_n 2, 1) := by decide +kernel
theorem dX6_theOffer_40 : decode cX6_theOffer 40 = .ok (.areturn, 1) := by decide +kernel
theorem dX6_judgeAll_0 : decode cX6_judgeAll 0 = .ok (.iconst 0, 1) := by decide +kernel
theorem dX6_judgeAll_1 : decode cX6_judgeAll 1 = .ok (.istore_n 1, 1) := by decide +kernel
theorem dX6_judgeAll_2 : decode cX6_judgeAll 2 = .ok (.aload_n 0, 1) := by decide +kernel
theorem dX6_judgeAll_3 : decode cX6_judgeAll 3 = .ok (.getfield 29, 3) := by decide +kernel
theorem dX6_judgeAll_6 : decode cX6_judgeAll 6 = .ok (.astore_n 2, 1) := by decide +kernel
theorem dX6_judgeAll_7 : decode cX6_judgeAll 7 = .ok (.aload_n 2, 1) := by decide +kernel
theorem dX6_judgeAll_8 : decode cX6_judgeAll 8 = .ok (.arraylength, 1) := by decide +kernel
theorem dX6_judgeAll_9 : decode cX6_judgeAll 9 = .ok (.istore_n 3, 1) := by decide +kernel
theorem dX6_judgeAll_10 : decode cX6_judgeAll 10 = .ok (.iconst 0, 1) := by decide +kernel
theorem dX6_judgeAll_11 : decode cX6_judgeAll 11 = .ok (.istore 4, 2) := by decide +kernel
theorem dX6_judgeAll_13 : decode cX6_judgeAll 13 = .ok (.iload 4, 2) := by decide +kernel
theorem dX6_judgeAll_15 : decode cX6_judgeAll 15 = .ok (.iload_n 3, 1) := by decide +kernel
theorem dX6_judgeAll_16 : decode cX6_judgeAll 16 = .ok (.if_icmp .ge 39, 3) := by decide +kernel
theorem dX6_judgeAll_19 : decode cX6_judgeAll 19 = .ok (.aload_n 2, 1) := by decide +kernel
theorem dX6_judgeAll_20 : decode cX6_judgeAll 20 = .ok (.iload 4, 2) := by decide +kernel
theorem dX6_judgeAll_22 : decode cX6_judgeAll 22 = .ok (.aaload, 1) := by decide +kernel
theorem dX6_judgeAll_23 : decode cX6_judgeAll 23 = .ok (.astore 5, 2) := by decide +kernel
theorem dX6_judgeAll_25 : decode cX6_judgeAll 25 = .ok (.aload 5, 2) := by decide +kernel
theorem dX6_judgeAll_27 : decode cX6_judgeAll 27 = .ok (.ifnull 22, 3) := by decide +kernel
theorem dX6_judgeAll_30 : decode cX6_judgeAll 30 = .ok (.aload 5, 2) := by decide +kernel
theorem dX6_judgeAll_32 : decode cX6_judgeAll 32 = .ok (.invokevirtual 301, 3) := by decide +kernel
theorem dX6_judgeAll_35 : decode cX6_judgeAll 35 = .ok (.ifCond .ne 14, 3) := by decide +kernel
theorem dX6_judgeAll_38 : decode cX6_judgeAll 38 = .ok (.aload 5, 2) := by decide +kernel
theorem dX6_judgeAll_40 : decode cX6_judgeAll 40 = .ok (.invokevirtual 304, 3) := by decide +kernel
theorem dX6_judgeAll_43 : decode cX6_judgeAll 43 = .ok (.ifCond .eq 6, 3) := by decide +kernel
theorem dX6_judgeAll_46 : decode cX6_judgeAll 46 = .ok (.iinc 1 1, 3) := by decide +kernel
theorem dX6_judgeAll_49 : decode cX6_judgeAll 49 = .ok (.iinc 4 1, 3) := by decide +kernel
theorem dX6_judgeAll_52 : decode cX6_judgeAll 52 = .ok (.goto (-39), 3) := by decide +kernel
theorem dX6_judgeAll_55 : decode cX6_judgeAll 55 = .ok (.aload_n 0, 1) := by decide +kernel
theorem dX6_judgeAll_56 : decode cX6_judgeAll 56 = .ok (.getfield 17, 3) := by decide +kernel
theorem dX6_judgeAll_59 : decode cX6_judgeAll 59 = .ok (.astore_n 2, 1) := by decide +kernel
theorem dX6_judgeAll_60 : decode cX6_judgeAll 60 = .ok (.aload_n 2, 1) := by decide +kernel
theorem dX6_judgeAll_61 : decode cX6_judgeAll 61 = .ok (.arraylength, 1) := by decide +kernel
theorem dX6_judgeAll_62 : decode cX6_judgeAll 62 = .ok (.istore_n 3, 1) := by decide +kernel
theorem dX6_judgeAll_63 : decode cX6_judgeAll 63 = .ok (.iconst 0, 1) := by decide +kernel
theorem dX6_judgeAll_64 : decode cX6_judgeAll 64 = .ok (.istore 4, 2) := by decide +kernel
theorem dX6_judgeAll_66 : decode cX6_judgeAll 66 = .ok (.iload 4, 2) := by decide +kernel
theorem dX6_judgeAll_68 : decode cX6_judgeAll 68 = .ok (.iload_n 3, 1) := by decide +kernel
theorem dX6_judgeAll_69 : decode cX6_judgeAll 69 = .ok (.if_icmp .ge 39, 3) := by decide +kernel
theorem dX6_judgeAll_72 : decode cX6_judgeAll 72 = .ok (.aload_n 2, 1) := by decide +kernel
theorem dX6_judgeAll_73 : decode cX6_judgeAll 73 = .ok (.iload 4, 2) := by decide +kernel
theorem dX6_judgeAll_75 : decode cX6_judgeAll 75 = .ok (.aaload, 1) := by decide +kernel
theorem dX6_judgeAll_76 : decode cX6_judgeAll 76 = .ok (.astore 5, 2) := by decide +kernel
theorem dX6_judgeAll_78 : decode cX6_judgeAll 78 = .ok (.aload 5, 2) := by decide +kernel
theorem dX6_judgeAll_80 : decode cX6_judgeAll 80 = .ok (.ifnull 22, 3) := by decide +kernel
theorem dX6_judgeAll_83 : decode cX6_judgeAll 83 = .ok (.aload 5, 2) := by decide +kernel
theorem dX6_judgeAll_85 : decode cX6_judgeAll 85 = .ok (.getfield 104, 3) := by decide +kernel
theorem dX6_judgeAll_88 : decode cX6_judgeAll 88 = .ok (.ifnull 14, 3) := by decide +kernel
theorem dX6_judgeAll_91 : decode cX6_judgeAll 91 = .ok (.aload_n 0, 1) := by decide +kernel
theorem dX6_judgeAll_92 : decode cX6_judgeAll 92 = .ok (.aload 5, 2) := by decide +kernel
theorem dX6_judgeAll_94 : decode cX6_judgeAll 94 = .ok (.aload 5, 2) := by decide +kernel
theorem dX6_judgeAll_96 : decode cX6_judgeAll 96 = .ok (.getfield 104, 3) := by decide +kernel
theorem dX6_judgeAll_99 : decode cX6_judgeAll 99 = .ok (.invokevirtual 307, 3) := by decide +kernel
theorem dX6_judgeAll_102 : decode cX6_judgeAll 102 = .ok (.iinc 4 1, 3) := by decide +kernel
theorem dX6_judgeAll_105 : decode cX6_judgeAll 105 = .ok (.goto (-39), 3) := by decide +kernel
theorem dX6_judgeAll_108 : decode cX6_judgeAll 108 = .ok (.iload_n 1, 1) := by decide +kernel
theorem dX6_judgeAll_109 : decode cX6_judgeAll 109 = .ok (.ireturn, 1) := by decide +kernel
theorem dX6_claimFor_0 : decode cX6_claimFor 0 = .ok (.aload_n 0, 1) := by decide +kernel
theorem dX6_claimFor_1 : decode cX6_claimFor 1 = .ok (.getfield 23, 3) := by decide +kernel
theorem dX6_claimFor_4 : decode cX6_claimFor 4 = .ok (.astore_n 3, 1) := by decide +kernel
theorem dX6_claimFor_5 : decode cX6_claimFor 5 = .ok (.aload_n 3, 1) := by decide +kernel
theorem dX6_claimFor_6 : decode cX6_claimFor 6 = .ok (.arraylength, 1) := by decide +kernel
theorem dX6_claimFor_7 : decode cX6_claimFor 7 = .ok (.istore 4, 2) := by decide +kernel
theorem dX6_claimFor_9 : decode cX6_claimFor 9 = .ok (.iconst 0, 1) := by decide +kernel
theorem dX6_claimFor_10 : decode cX6_claimFor 10 = .ok (.istore 5, 2) := by decide +kernel
theorem dX6_claimFor_12 : decode cX6_claimFor 12 = .ok (.iload 5, 2) := by decide +kernel
theorem dX6_claimFor_14 : decode cX6_claimFor 14 = .ok (.iload 4, 2) := by decide +kernel
theorem dX6_claimFor_16 : decode cX6_claimFor 16 = .ok (.if_icmp .ge 59, 3) := by decide +kernel
theorem dX6_claimFor_19 : decode cX6_claimFor 19 = .ok (.aload_n 3, 1) := by decide +kernel
theorem dX6_claimFor_20 : decode cX6_claimFor 20 = .ok (.iload 5, 2) := by decide +kernel
theorem dX6_claimFor_22 : decode cX6_claimFor 22 = .ok (.aaload, 1) := by decide +kernel
theorem dX6_claimFor_23 : decode cX6_claimFor 23 = .ok (.astore 6, 2) := by decide +kernel
theorem dX6_claimFor_25 : decode cX6_claimFor 25 = .ok (.aload 6, 2) := by decide +kernel
theorem dX6_claimFor_27 : decode cX6_claimFor 27 = .ok (.ifnull 42, 3) := by decide +kernel
theorem dX6_claimFor_30 : decode cX6_claimFor 30 = .ok (.aload 6, 2) := by decide +kernel
theorem dX6_claimFor_32 : decode cX6_claimFor 32 = .ok (.aload_n 1, 1) := by decide +kernel
theorem dX6_claimFor_33 : decode cX6_claimFor 33 = .ok (.invokevirtual 201, 3) := by decide +kernel
theorem dX6_claimFor_36 : decode cX6_claimFor 36 = .ok (.ifCond .eq 33, 3) := by decide +kernel
theorem dX6_claimFor_39 : decode cX6_claimFor 39 = .ok (.aload_n 1, 1) := by decide +kernel
theorem dX6_claimFor_40 : decode cX6_claimFor 40 = .ok (.aload_n 2, 1) := by decide +kernel
theorem dX6_claimFor_41 : decode cX6_claimFor 41 = .ok (.aload 6, 2) := by decide +kernel
theorem dX6_claimFor_43 : decode cX6_claimFor 43 = .ok (.invokevirtual 310, 3) := by decide +kernel
theorem dX6_claimFor_46 : decode cX6_claimFor 46 = .ok (.astore 7, 2) := by decide +kernel
theorem dX6_claimFor_48 : decode cX6_claimFor 48 = .ok (.aload 7, 2) := by decide +kernel
theorem dX6_claimFor_50 : decode cX6_claimFor 50 = .ok (.ifnonnull 14, 3) := by decide +kernel
theorem dX6_claimFor_53 : decode cX6_claimFor 53 = .ok (.aload_n 0, 1) := by decide +kernel
theorem dX6_claimFor_54 : decode cX6_claimFor 54 = .ok (.aload_n 2, 1) := by decide +kernel
theorem dX6_claimFor_55 : decode cX6_claimFor 55 = .ok (.aload_n 1, 1) := by decide +kernel
theorem dX6_claimFor_56 : decode cX6_claimFor 56 = .ok (.aload 6, 2) := by decide +kernel
theorem dX6_claimFor_58 : decode cX6_claimFor 58 = .ok (.invokevirtual 314, 3) := by decide +kernel
theorem dX6_claimFor_61 : decode cX6_claimFor 61 = .ok (.goto 8, 3) := by decide +kernel
theorem dX6_claimFor_64 : decode cX6_claimFor 64 = .ok (.aload 7, 2) := by decide +kernel
theorem dX6_claimFor_66 : decode cX6_claimFor 66 = .ok (.invokevirtual 318, 3) := by decide +kernel
theorem dX6_claimFor_69 : decode cX6_claimFor 69 = .ok (.iinc 5 1, 3) := by decide +kernel
theorem dX6_claimFor_72 : decode cX6_claimFor 72 = .ok (.goto (-60), 3) := by decide +kernel
theorem dX6_claimFor_75 : decode cX6_claimFor 75 = .ok (.return_, 1) := by decide +kernel
theorem dX6_makeClaim_0 : decode cX6_makeClaim 0 = .ok (.aload_n 0, 1) := by decide +kernel
theorem dX6_makeClaim_1 : decode cX6_makeClaim 1 = .ok (.getfield 216, 3) := by decide +kernel
theorem dX6_makeClaim_4 : decode cX6_makeClaim 4 = .ok (.aload_n 0, 1) := by decide +kernel
theorem dX6_makeClaim_5 : decode cX6_makeClaim 5 = .ok (.getfield 29, 3) := by decide +kernel
theorem dX6_makeClaim_8 : decode cX6_makeClaim 8 = .ok (.arraylength, 1) := by decide +kernel
theorem dX6_makeClaim_9 : decode cX6_makeClaim 9 = .ok (.if_icmp .lt 4, 3) := by decide +kernel
theorem dX6_makeClaim_12 : decode cX6_makeClaim 12 = .ok (.return_, 1) := by decide +kernel
theorem dX6_makeClaim_13 : decode cX6_makeClaim 13 = .ok (.new 27, 3) := by decide +kernel
theorem dX6_makeClaim_16 : decode cX6_makeClaim 16 = .ok (.dup, 1) := by decide +kernel
theorem dX6_makeClaim_17 : decode cX6_makeClaim 17 = .ok (.aload_n 1, 1) := by decide +kernel
theorem dX6_makeClaim_18 : decode cX6_makeClaim 18 = .ok (.aload_n 2, 1) := by decide +kernel
theorem dX6_makeClaim_19 : decode cX6_makeClaim 19 = .ok (.aload_n 3, 1) := by decide +kernel
theorem dX6_makeClaim_20 : decode cX6_makeClaim 20 = .ok (.invokespecial 321, 3) := by decide +kernel
theorem dX6_makeClaim_23 : decode cX6_makeClaim 23 = .ok (.astore 4, 2) := by decide +kernel
theorem dX6_makeClaim_25 : decode cX6_makeClaim 25 = .ok (.aload_n 2, 1) := by decide +kernel
theorem dX6_makeClaim_26 : decode cX6_makeClaim 26 = .ok (.aload 4, 2) := by decide +kernel
theorem dX6_makeClaim_28 : decode cX6_makeClaim 28 = .ok (.putfield 323, 3) := by decide +kernel
theorem dX6_makeClaim_31 : decode cX6_makeClaim 31 = .ok (.aload_n 0, 1) := by decide +kernel
theorem dX6_makeClaim_32 : decode cX6_makeClaim 32 = .ok (.getfield 29, 3) := by decide +kernel
theorem dX6_makeClaim_35 : decode cX6_makeClaim 35 = .ok (.aload_n 0, 1) := by decide +kernel
theorem dX6_makeClaim_36 : decode cX6_makeClaim 36 = .ok (.getfield 216, 3) := by decide +kernel
theorem dX6_makeClaim_39 : decode cX6_makeClaim 39 = .ok (.aload 4, 2) := by decide +kernel
theorem dX6_makeClaim_41 : decode cX6_makeClaim 41 = .ok (.aastore, 1) := by decide +kernel
theorem dX6_makeClaim_42 : decode cX6_makeClaim 42 = .ok (.aload_n 0, 1) := by decide +kernel
theorem dX6_makeClaim_43 : decode cX6_makeClaim 43 = .ok (.dup, 1) := by decide +kernel
theorem dX6_makeClaim_44 : decode cX6_makeClaim 44 = .ok (.getfield 216, 3) := by decide +kernel
theorem dX6_makeClaim_47 : decode cX6_makeClaim 47 = .ok (.iconst 1, 1) := by decide +kernel
theorem dX6_makeClaim_48 : decode cX6_makeClaim 48 = .ok (.iadd, 1) := by decide +kernel
theorem dX6_makeClaim_49 : decode cX6_makeClaim 49 = .ok (.putfield 216, 3) := by decide +kernel
theorem dX6_makeClaim_52 : decode cX6_makeClaim 52 = .ok (.return_, 1) := by decide +kernel
theorem dX6_brokenBy_0 : decode cX6_brokenBy 0 = .ok (.iconst 0, 1) := by decide +kernel
theorem dX6_brokenBy_1 : decode cX6_brokenBy 1 = .ok (.istore_n 2, 1) := by decide +kernel
theorem dX6_brokenBy_2 : decode cX6_brokenBy 2 = .ok (.aload_n 0, 1) := by decide +kernel
theorem dX6_brokenBy_3 : decode cX6_brokenBy 3 = .ok (.getfield 23, 3) := by decide +kernel
theorem dX6_brokenBy_6 : decode cX6_brokenBy 6 = .ok (.astore_n 3, 1) := by decide +kernel
theorem dX6_brokenBy_7 : decode cX6_brokenBy 7 = .ok (.aload_n 3, 1) := by decide +kernel
theorem dX6_brokenBy_8 : decode cX6_brokenBy 8 = .ok (.arraylength, 1) := by decide +kernel
theorem dX6_brokenBy_9 : decode cX6_brokenBy 9 = .ok (.istore 4, 2) := by decide +kernel
theorem dX6_brokenBy_11 : decode cX6_brokenBy 11 = .ok (.iconst 0, 1) := by decide +kernel
theorem dX6_brokenBy_12 : decode cX6_brokenBy 12 = .ok (.istore 5, 2) := by decide +kernel
theorem dX6_brokenBy_14 : decode cX6_brokenBy 14 = .ok (.iload 5, 2) := by decide +kernel
theorem dX6_brokenBy_16 : decode cX6_brokenBy 16 = .ok (.iload 4, 2) := by decide +kernel
theorem dX6_brokenBy_18 : decode cX6_brokenBy 18 = .ok (.if_icmp .ge 32, 3) := by decide +kernel
theorem dX6_brokenBy_21 : decode cX6_brokenBy 21 = .ok (.aload_n 3, 1) := by decide +kernel
theorem dX6_brokenBy_22 : decode cX6_brokenBy 22 = .ok (.iload 5, 2) := by decide +kernel
theorem dX6_brokenBy_24 : decode cX6_brokenBy 24 = .ok (.aaload, 1) := by decide +kernel
theorem dX6_brokenBy_25 : decode cX6_brokenBy 25 = .ok (.astore 6, 2) := by decide +kernel
theorem dX6_brokenBy_27 : decode cX6_brokenBy 27 = .ok (.aload 6, 2) := by decide +kernel
theorem dX6_brokenBy_29 : decode cX6_brokenBy 29 = .ok (.ifnull 15, 3) := by decide +kernel
theorem dX6_brokenBy_32 : decode cX6_brokenBy 32 = .ok (.aload 6, 2) := by decide +kernel
theorem dX6_brokenBy_34 : decode cX6_brokenBy 34 = .ok (.aload_n 1, 1) := by decide +kernel
theorem dX6_brokenBy_35 : decode cX6_brokenBy 35 = .ok (.invokevirtual 201, 3) := by decide +kernel
theorem dX6_brokenBy_38 : decode cX6_brokenBy 38 = .ok (.ifCond .eq 6, 3) := by decide +kernel
theorem dX6_brokenBy_41 : decode cX6_brokenBy 41 = .ok (.iinc 2 1, 3) := by decide +kernel
theorem dX6_brokenBy_44 : decode cX6_brokenBy 44 = .ok (.iinc 5 1, 3) := by decide +kernel
theorem dX6_brokenBy_47 : decode cX6_brokenBy 47 = .ok (.goto (-33), 3) := by decide +kernel
theorem dX6_brokenBy_50 : decode cX6_brokenBy 50 = .ok (.iload_n 2, 1) := by decide +kernel
theorem dX6_brokenBy_51 : decode cX6_brokenBy 51 = .ok (.ireturn, 1) := by decide +kernel
theorem dX6_handOver_0 : decode cX6_handOver 0 = .ok (.aload_n 1, 1) := by decide +kernel
theorem dX6_handOver_1 : decode cX6_handOver 1 = .ok (.getfield 104, 3) := by decide +kernel
theorem dX6_handOver_4 : decode cX6_handOver 4 = .ok (.ifnull 11, 3) := by decide +kernel
theorem dX6_handOver_7 : decode cX6_handOver 7 = .ok (.aload_n 1, 1) := by decide +kernel
theorem dX6_handOver_8 : decode cX6_handOver 8 = .ok (.getfield 104, 3) := by decide +kernel
theorem dX6_handOver_11 : decode cX6_handOver 11 = .ok (.aload_n 1, 1) := by decide +kernel
theorem dX6_handOver_12 : decode cX6_handOver 12 = .ok (.invokevirtual 122, 3) := by decide +kernel
theorem dX6_handOver_15 : decode cX6_handOver 15 = .ok (.aload_n 1, 1) := by decide +kernel
theorem dX6_handOver_16 : decode cX6_handOver 16 = .ok (.aload_n 2, 1) := by decide +kernel
theorem dX6_handOver_17 : decode cX6_handOver 17 = .ok (.putfield 104, 3) := by decide +kernel
theorem dX6_handOver_20 : decode cX6_handOver 20 = .ok (.aload_n 2, 1) := by decide +kernel
theorem dX6_handOver_21 : decode cX6_handOver 21 = .ok (.ifnull 8, 3) := by decide +kernel
theorem dX6_handOver_24 : decode cX6_handOver 24 = .ok (.aload_n 2, 1) := by decide +kernel
theorem dX6_handOver_25 : decode cX6_handOver 25 = .ok (.aload_n 1, 1) := by decide +kernel
theorem dX6_handOver_26 : decode cX6_handOver 26 = .ok (.invokevirtual 132, 3) := by decide +kernel
theorem dX6_handOver_29 : decode cX6_handOver 29 = .ok (.aload_n 0, 1) := by decide +kernel
theorem dX6_handOver_30 : decode cX6_handOver 30 = .ok (.getfield 35, 3) := by decide +kernel
theorem dX6_handOver_33 : decode cX6_handOver 33 = .ok (.astore_n 3, 1) := by decide +kernel
theorem dX6_handOver_34 : decode cX6_handOver 34 = .ok (.aload_n 3, 1) := by decide +kernel
theorem dX6_handOver_35 : decode cX6_handOver 35 = .ok (.arraylength, 1) := by decide +kernel
theorem dX6_handOver_36 : decode cX6_handOver 36 = .ok (.istore 4, 2) := by decide +kernel
theorem dX6_handOver_38 : decode cX6_handOver 38 = .ok (.iconst 0, 1) := by decide +kernel
theorem dX6_handOver_39 : decode cX6_handOver 39 = .ok (.istore 5, 2) := by decide +kernel
theorem dX6_handOver_41 : decode cX6_handOver 41 = .ok (.iload 5, 2) := by decide +kernel
theorem dX6_handOver_43 : decode cX6_handOver 43 = .ok (.iload 4, 2) := by decide +kernel
theorem dX6_handOver_45 : decode cX6_handOver 45 = .ok (.if_icmp .ge 44, 3) := by decide +kernel
theorem dX6_handOver_48 : decode cX6_handOver 48 = .ok (.aload_n 3, 1) := by decide +kernel
theorem dX6_handOver_49 : decode cX6_handOver 49 = .ok (.iload 5, 2) := by decide +kernel
theorem dX6_handOver_51 : decode cX6_handOver 51 = .ok (.aaload, 1) := by decide +kernel
theorem dX6_handOver_52 : decode cX6_handOver 52 = .ok (.astore 6, 2) := by decide +kernel
theorem dX6_handOver_54 : decode cX6_handOver 54 = .ok (.aload 6, 2) := by decide +kernel
theorem dX6_handOver_56 : decode cX6_handOver 56 = .ok (.ifnull 27, 3) := by decide +kernel
theorem dX6_handOver_59 : decode cX6_handOver 59 = .ok (.aload 6, 2) := by decide +kernel
theorem dX6_handOver_61 : decode cX6_handOver 61 = .ok (.getfield 327, 3) := by decide +kernel
theorem dX6_handOver_64 : decode cX6_handOver 64 = .ok (.aload_n 1, 1) := by decide +kernel
theorem dX6_handOver_65 : decode cX6_handOver 65 = .ok (.if_acmp .eq 12, 3) := by decide +kernel
theorem dX6_handOver_68 : decode cX6_handOver 68 = .ok (.aload 6, 2) := by decide +kernel
theorem dX6_handOver_70 : decode cX6_handOver 70 = .ok (.getfield 287, 3) := by decide +kernel
theorem dX6_handOver_73 : decode cX6_handOver 73 = .ok (.aload_n 1, 1) := by decide +kernel
theorem dX6_handOver_74 : decode cX6_handOver 74 = .ok (.if_acmp .ne 9, 3) := by decide +kernel
theorem dX6_handOver_77 : decode cX6_handOver 77 = .ok (.aload 6, 2) := by decide +kernel
theorem dX6_handOver_79 : decode cX6_handOver 79 = .ok (.iconst 0, 1) := by decide +kernel
theorem dX6_handOver_80 : decode cX6_handOver 80 = .ok (.putfield 270, 3) := by decide +kernel
theorem dX6_handOver_83 : decode cX6_handOver 83 = .ok (.iinc 5 1, 3) := by decide +kernel
theorem dX6_handOver_86 : decode cX6_handOver 86 = .ok (.goto (-45), 3) := by decide +kernel
theorem dX6_handOver_89 : decode cX6_handOver 89 = .ok (.return_, 1) := by decide +kernel
theorem dX6_isBehindNow_0 : decode cX6_isBehindNow 0 = .ok (.aload_n 1, 1) := by decide +kernel
theorem dX6_isBehindNow_1 : decode cX6_isBehindNow 1 = .ok (.getfield 330, 3) := by decide +kernel
theorem dX6_isBehindNow_4 : decode cX6_isBehindNow 4 = .ok (.aload_n 0, 1) := by decide +kernel
theorem dX6_isBehindNow_5 : decode cX6_isBehindNow 5 = .ok (.getfield 59, 3) := by decide +kernel
theorem dX6_isBehindNow_8 : decode cX6_isBehindNow 8 = .ok (.if_icmp .le 7, 3) := by decide +kernel
theorem dX6_isBehindNow_11 : decode cX6_isBehindNow 11 = .ok (.iconst 1, 1) := by decide +kernel
theorem dX6_isBehindNow_12 : decode cX6_isBehindNow 12 = .ok (.goto 4, 3) := by decide +kernel
theorem dX6_isBehindNow_15 : decode cX6_isBehindNow 15 = .ok (.iconst 0, 1) := by decide +kernel
theorem dX6_isBehindNow_16 : decode cX6_isBehindNow 16 = .ok (.ireturn, 1) := by decide +kernel
theorem dX6_offersThere_0 : decode cX6_offersThere 0 = .ok (.iconst 0, 1) := by decide +kernel
theorem dX6_offersThere_1 : decode cX6_offersThere 1 = .ok (.istore_n 1, 1) := by decide +kernel
theorem dX6_offersThere_2 : decode cX6_offersThere 2 = .ok (.aload_n 0, 1) := by decide +kernel
theorem dX6_offersThere_3 : decode cX6_offersThere 3 = .ok (.getfield 35, 3) := by decide +kernel
theorem dX6_offersThere_6 : decode cX6_offersThere 6 = .ok (.astore_n 2, 1) := by decide +kernel
theorem dX6_offersThere_7 : decode cX6_offersThere 7 = .ok (.aload_n 2, 1) := by decide +kernel
theorem dX6_offersThere_8 : decode cX6_offersThere 8 = .ok (.arraylength, 1) := by decide +kernel
theorem dX6_offersThere_9 : decode cX6_offersThere 9 = .ok (.istore_n 3, 1) := by decide +kernel
theorem dX6_offersThere_10 : decode cX6_offersThere 10 = .ok (.iconst 0, 1) := by decide +kernel
theorem dX6_offersThere_11 : decode cX6_offersThere 11 = .ok (.istore 4, 2) := by decide +kernel
theorem dX6_offersThere_13 : decode cX6_offersThere 13 = .ok (.iload 4, 2) := by decide +kernel
theorem dX6_offersThere_15 : decode cX6_offersThere 15 = .ok (.iload_n 3, 1) := by decide +kernel
theorem dX6_offersThere_16 : decode cX6_offersThere 16 = .ok (.if_icmp .ge 31, 3) := by decide +kernel
theorem dX6_offersThere_19 : decode cX6_offersThere 19 = .ok (.aload_n 2, 1) := by decide +kernel
theorem dX6_offersThere_20 : decode cX6_offersThere 20 = .ok (.iload 4, 2) := by decide +kernel
theorem dX6_offersThere_22 : decode cX6_offersThere 22 = .ok (.aaload, 1) := by decide +kernel
theorem dX6_offersThere_23 : decode cX6_offersThere 23 = .ok (.astore 5, 2) := by decide +kernel
theorem dX6_offersThere_25 : decode cX6_offersThere 25 = .ok (.aload 5, 2) := by decide +kernel
theorem dX6_offersThere_27 : decode cX6_offersThere 27 = .ok (.ifnull 14, 3) := by decide +kernel
theorem dX6_offersThere_30 : decode cX6_offersThere 30 = .ok (.aload 5, 2) := by decide +kernel
theorem dX6_offersThere_32 : decode cX6_offersThere 32 = .ok (.getfield 270, 3) := by decide +kernel
theorem dX6_offersThere_35 : decode cX6_offersThere 35 = .ok (.ifCond .eq 6, 3) := by decide +kernel
theorem dX6_offersThere_38 : decode cX6_offersThere 38 = .ok (.iinc 1 1, 3) := by decide +kernel
theorem dX6_offersThere_41 : decode cX6_offersThere 41 = .ok (.iinc 4 1, 3) := by decide +kernel
theorem dX6_offersThere_44 : decode cX6_offersThere 44 = .ok (.goto (-31), 3) := by decide +kernel
theorem dX6_offersThere_47 : decode cX6_offersThere 47 = .ok (.iload_n 1, 1) := by decide +kernel
theorem dX6_offersThere_48 : decode cX6_offersThere 48 = .ok (.ireturn, 1) := by decide +kernel
theorem dX6_gatherRing_0 : decode cX6_gatherRing 0 = .ok (.iconst 0, 1) := by decide +kernel
theorem dX6_gatherRing_1 : decode cX6_gatherRing 1 = .ok (.istore_n 2, 1) := by decide +kernel
theorem dX6_gatherRing_2 : decode cX6_gatherRing 2 = .ok (.iload_n 2, 1) := by decide +kernel
theorem dX6_gatherRing_3 : decode cX6_gatherRing 3 = .ok (.aload_n 0, 1) := by decide +kernel
theorem dX6_gatherRing_4 : decode cX6_gatherRing 4 = .ok (.getfield 39, 3) := by decide +kernel
theorem dX6_gatherRing_7 : decode cX6_gatherRing 7 = .ok (.arraylength, 1) := by decide +kernel
theorem dX6_gatherRing_8 : decode cX6_gatherRing 8 = .ok (.if_icmp .ge 16, 3) := by decide +kernel
theorem dX6_gatherRing_11 : decode cX6_gatherRing 11 = .ok (.aload_n 0, 1) := by decide +kernel
theorem dX6_gatherRing_12 : decode cX6_gatherRing 12 = .ok (.getfield 39, 3) := by decide +kernel
theorem dX6_gatherRing_15 : decode cX6_gatherRing 15 = .ok (.iload_n 2, 1) := by decide +kernel
theorem dX6_gatherRing_16 : decode cX6_gatherRing 16 = .ok (.aconst_null, 1) := by decide +kernel
theorem dX6_gatherRing_17 : decode cX6_gatherRing 17 = .ok (.aastore, 1) := by decide +kernel
theorem dX6_gatherRing_18 : decode cX6_gatherRing 18 = .ok (.iinc 2 1, 3) := by decide +kernel
theorem dX6_gatherRing_21 : decode cX6_gatherRing 21 = .ok (.goto (-19), 3) := by decide +kernel
theorem dX6_gatherRing_24 : decode cX6_gatherRing 24 = .ok (.aload_n 1, 1) := by decide +kernel
theorem dX6_gatherRing_25 : decode cX6_gatherRing 25 = .ok (.astore_n 2, 1) := by decide +kernel
theorem dX6_gatherRing_26 : decode cX6_gatherRing 26 = .ok (.iconst 0, 1) := by decide +kernel
theorem dX6_gatherRing_27 : decode cX6_gatherRing 27 = .ok (.istore_n 3, 1) := by decide +kernel
theorem dX6_gatherRing_28 : decode cX6_gatherRing 28 = .ok (.iload_n 3, 1) := by decide +kernel
theorem dX6_gatherRing_29 : decode cX6_gatherRing 29 = .ok (.aload_n 0, 1) := by decide +kernel
theorem dX6_gatherRing_30 : decode cX6_gatherRing 30 = .ok (.getfield 39, 3) := by decide +kernel
theorem dX6_gatherRing_33 : decode cX6_gatherRing 33 = .ok (.arraylength, 1) := by decide +kernel
theorem dX6_gatherRing_34 : decode cX6_gatherRing 34 = .ok (.if_icmp .ge 64, 3) := by decide +kernel
theorem dX6_gatherRing_37 : decode cX6_gatherRing 37 = .ok (.aload_n 2, 1) := by decide +kernel
theorem dX6_gatherRing_38 : decode cX6_gatherRing 38 = .ok (.ifnull 21, 3) := by decide +kernel
theorem dX6_gatherRing_41 : decode cX6_gatherRing 41 = .ok (.aload_n 2, 1) := by decide +kernel
theorem dX6_gatherRing_42 : decode cX6_gatherRing 42 = .ok (.getfield 270, 3) := by decide +kernel
theorem dX6_gatherRing_45 : decode cX6_gatherRing 45 = .ok (.ifCond .eq 14, 3) := by decide +kernel
theorem dX6_gatherRing_48 : decode cX6_gatherRing 48 = .ok (.aload_n 0, 1) := by decide +kernel
theorem dX6_gatherRing_49 : decode cX6_gatherRing 49 = .ok (.aload_n 2, 1) := by decide +kernel
theorem dX6_gatherRing_50 : decode cX6_gatherRing 50 = .ok (.getfield 290, 3) := by decide +kernel
theorem dX6_gatherRing_53 : decode cX6_gatherRing 53 = .ok (.invokevirtual 333, 3) := by decide +kernel
theorem dX6_gatherRing_56 : decode cX6_gatherRing 56 = .ok (.ifCond .eq 5, 3) := by decide +kernel
theorem dX6_gatherRing_59 : decode cX6_gatherRing 59 = .ok (.iconst 0, 1) := by decide +kernel
theorem dX6_gatherRing_60 : decode cX6_gatherRing 60 = .ok (.ireturn, 1) := by decide +kernel
theorem dX6_gatherRing_61 : decode cX6_gatherRing 61 = .ok (.aload_n 0, 1) := by decide +kernel
theorem dX6_gatherRing_62 : decode cX6_gatherRing 62 = .ok (.getfield 39, 3) := by decide +kernel
theorem dX6_gatherRing_65 : decode cX6_gatherRing 65 = .ok (.iload_n 3, 1) := by decide +kernel
theorem dX6_gatherRing_66 : decode cX6_gatherRing 66 = .ok (.aload_n 2, 1) := by decide +kernel
theorem dX6_gatherRing_67 : decode cX6_gatherRing 67 = .ok (.aastore, 1) := by decide +kernel
theorem dX6_gatherRing_68 : decode cX6_gatherRing 68 = .ok (.aload_n 2, 1) := by decide +kernel
theorem dX6_gatherRing_69 : decode cX6_gatherRing 69 = .ok (.getfield 287, 3) := by decide +kernel
theorem dX6_gatherRing_72 : decode cX6_gatherRing 72 = .ok (.aload_n 1, 1) := by decide +kernel
theorem dX6_gatherRing_73 : decode cX6_gatherRing 73 = .ok (.getfield 327, 3) := by decide +kernel
theorem dX6_gatherRing_76 : decode cX6_gatherRing 76 = .ok (.if_acmp .ne 7, 3) := by decide +kernel
theorem dX6_gatherRing_79 : decode cX6_gatherRing 79 = .ok (.iload_n 3, 1) := by decide +kernel
theorem dX6_gatherRing_80 : decode cX6_gatherRing 80 = .ok (.iconst 1, 1) := by decide +kernel
theorem dX6_gatherRing_81 : decode cX6_gatherRing 81 = .ok (.iadd, 1) := by decide +kernel
theorem dX6_gatherRing_82 : decode cX6_gatherRing 82 = .ok (.ireturn, 1) := by decide +kernel
theorem dX6_gatherRing_83 : decode cX6_gatherRing 83 = .ok (.aload_n 0, 1) := by decide +kernel
theorem dX6_gatherRing_84 : decode cX6_gatherRing 84 = .ok (.aload_n 2, 1) := by decide +kernel
theorem dX6_gatherRing_85 : decode cX6_gatherRing 85 = .ok (.getfield 287, 3) := by decide +kernel
theorem dX6_gatherRing_88 : decode cX6_gatherRing 88 = .ok (.invokevirtual 337, 3) := by decide +kernel
theorem dX6_gatherRing_91 : decode cX6_gatherRing 91 = .ok (.astore_n 2, 1) := by decide +kernel
theorem dX6_gatherRing_92 : decode cX6_gatherRing 92 = .ok (.iinc 3 1, 3) := by decide +kernel
theorem dX6_gatherRing_95 : decode cX6_gatherRing 95 = .ok (.goto (-67), 3) := by decide +kernel
theorem dX6_gatherRing_98 : decode cX6_gatherRing 98 = .ok (.iconst 0, 1) := by decide +kernel
theorem dX6_gatherRing_99 : decode cX6_gatherRing 99 = .ok (.ireturn, 1) := by decide +kernel
theorem dX6_isInRing_0 : decode cX6_isInRing 0 = .ok (.aload_n 0, 1) := by decide +kernel
theorem dX6_isInRing_1 : decode cX6_isInRing 1 = .ok (.getfield 39, 3) := by decide +kernel
theorem dX6_isInRing_4 : decode cX6_isInRing 4 = .ok (.astore_n 2, 1) := by decide +kernel
theorem dX6_isInRing_5 : decode cX6_isInRing 5 = .ok (.aload_n 2, 1) := by decide +kernel
theorem dX6_isInRing_6 : decode cX6_isInRing 6 = .ok (.arraylength, 1) := by decide +kernel
theorem dX6_isInRing_7 : decode cX6_isInRing 7 = .ok (.istore_n 3, 1) := by decide +kernel
theorem dX6_isInRing_8 : decode cX6_isInRing 8 = .ok (.iconst 0, 1) := by decide +kernel
theorem dX6_isInRing_9 : decode cX6_isInRing 9 = .ok (.istore 4, 2) := by decide +kernel
theorem dX6_isInRing_11 : decode cX6_isInRing 11 = .ok (.iload 4, 2) := by decide +kernel
theorem dX6_isInRing_13 : decode cX6_isInRing 13 = .ok (.iload_n 3, 1) := by decide +kernel
theorem dX6_isInRing_14 : decode cX6_isInRing 14 = .ok (.if_icmp .ge 31, 3) := by decide +kernel
theorem dX6_isInRing_17 : decode cX6_isInRing 17 = .ok (.aload_n 2, 1) := by decide +kernel
theorem dX6_isInRing_18 : decode cX6_isInRing 18 = .ok (.iload 4, 2) := by decide +kernel
theorem dX6_isInRing_20 : decode cX6_isInRing 20 = .ok (.aaload, 1) := by decide +kernel
theorem dX6_isInRing_21 : decode cX6_isInRing 21 = .ok (.astore 5, 2) := by decide +kernel
theorem dX6_isInRing_23 : decode cX6_isInRing 23 = .ok (.aload 5, 2) := by decide +kernel
theorem dX6_isInRing_25 : decode cX6_isInRing 25 = .ok (.ifnull 14, 3) := by decide +kernel
theorem dX6_isInRing_28 : decode cX6_isInRing 28 = .ok (.aload 5, 2) := by decide +kernel
theorem dX6_isInRing_30 : decode cX6_isInRing 30 = .ok (.getfield 290, 3) := by decide +kernel
theorem dX6_isInRing_33 : decode cX6_isInRing 33 = .ok (.aload_n 1, 1) := by decide +kernel
theorem dX6_isInRing_34 : decode cX6_isInRing 34 = .ok (.if_acmp .ne 5, 3) := by decide +kernel
theorem dX6_isInRing_37 : decode cX6_isInRing 37 = .ok (.iconst 1, 1) := by decide +kernel
theorem dX6_isInRing_38 : decode cX6_isInRing 38 = .ok (.ireturn, 1) := by decide +kernel
theorem dX6_isInRing_39 : decode cX6_isInRing 39 = .ok (.iinc 4 1, 3) := by decide +kernel
theorem dX6_isInRing_42 : decode cX6_isInRing 42 = .ok (.goto (-31), 3) := by decide +kernel
theorem dX6_isInRing_45 : decode cX6_isInRing 45 = .ok (.iconst 0, 1) := by decide +kernel
theorem dX6_isInRing_46 : decode cX6_isInRing 46 = .ok (.ireturn, 1) := by decide +kernel
theorem dX6_lowestGiving_0 : decode cX6_lowestGiving 0 = .ok (.aload_n 0, 1) := by decide +kernel
theorem dX6_lowestGiving_1 : decode cX6_lowestGiving 1 = .ok (.getfield 35, 3) := by decide +kernel
theorem dX6_lowestGiving_4 : decode cX6_lowestGiving 4 = .ok (.astore_n 2, 1) := by decide +kernel
theorem dX6_lowestGiving_5 : decode cX6_lowestGiving 5 = .ok (.aload_n 2, 1) := by decide +kernel
theorem dX6_lowestGiving_6 : decode cX6_lowestGiving 6 = .ok (.arraylength, 1) := by decide +kernel
theorem dX6_lowestGiving_7 : decode cX6_lowestGiving 7 = .ok (.istore_n 3, 1) := by decide +kernel
theorem dX6_lowestGiving_8 : decode cX6_lowestGiving 8 = .ok (.iconst 0, 1) := by decide +kernel
theorem dX6_lowestGiving_9 : decode cX6_lowestGiving 9 = .ok (.istore 4, 2) := by decide +kernel
theorem dX6_lowestGiving_11 : decode cX6_lowestGiving 11 = .ok (.iload 4, 2) := by decide +kernel
theorem dX6_lowestGiving_13 : decode cX6_lowestGiving 13 = .ok (.iload_n 3, 1) := by decide +kernel
theorem dX6_lowestGiving_14 : decode cX6_lowestGiving 14 = .ok (.if_icmp .ge 40, 3) := by decide +kernel
theorem dX6_lowestGiving_17 : decode cX6_lowestGiving 17 = .ok (.aload_n 2, 1) := by decide +kernel
theorem dX6_lowestGiving_18 : decode cX6_lowestGiving 18 = .ok (.iload 4, 2) := by decide +kernel
theorem dX6_lowestGiving_20 : decode cX6_lowestGiving 20 = .ok (.aaload, 1) := by decide +kernel
theorem dX6_lowestGiving_21 : decode cX6_lowestGiving 21 = .ok (.astore 5, 2) := by decide +kernel
theorem dX6_lowestGiving_23 : decode cX6_lowestGiving 23 = .ok (.aload 5, 2) := by decide +kernel
theorem dX6_lowestGiving_25 : decode cX6_lowestGiving 25 = .ok (.ifnull 23, 3) := by decide +kernel
theorem dX6_lowestGiving_28 : decode cX6_lowestGiving 28 = .ok (.aload 5, 2) := by decide +kernel
theorem dX6_lowestGiving_30 : decode cX6_lowestGiving 30 = .ok (.getfield 270, 3) := by decide +kernel
theorem dX6_lowestGiving_33 : decode cX6_lowestGiving 33 = .ok (.ifCond .eq 15, 3) := by decide +kernel
theorem dX6_lowestGiving_36 : decode cX6_lowestGiving 36 = .ok (.aload 5, 2) := by decide +kernel
theorem dX6_lowestGiving_38 : decode cX6_lowestGiving 38 = .ok (.getfield 327, 3) := by decide +kernel
theorem dX6_lowestGiving_41 : decode cX6_lowestGiving 41 = .ok (.aload_n 1, 1) := by decide +kernel
theorem dX6_lowestGiving_42 : decode cX6_lowestGiving 42 = .ok (.if_acmp .ne 6, 3) := by decide +kernel
theorem dX6_lowestGiving_45 : decode cX6_lowestGiving 45 = .ok (.aload 5, 2) := by decide +kernel
theorem dX6_lowestGiving_47 : decode cX6_lowestGiving 47 = .ok (.areturn, 1) := by decide +kernel
theorem dX6_lowestGiving_48 : decode cX6_lowestGiving 48 = .ok (.iinc 4 1, 3) := by decide +kernel
theorem dX6_lowestGiving_51 : decode cX6_lowestGiving 51 = .ok (.goto (-40), 3) := by decide +kernel
theorem dX6_lowestGiving_54 : decode cX6_lowestGiving 54 = .ok (.aconst_null, 1) := by decide +kernel
theorem dX6_lowestGiving_55 : decode cX6_lowestGiving 55 = .ok (.areturn, 1) := by decide +kernel
theorem dX6_ringCanSwap_0 : decode cX6_ringCanSwap 0 = .ok (.aload_n 0, 1) := by decide +kernel
theorem dX6_ringCanSwap_1 : decode cX6_ringCanSwap 1 = .ok (.getfield 39, 3) := by decide +kernel
theorem dX6_ringCanSwap_4 : decode cX6_ringCanSwap 4 = .ok (.astore_n 1, 1) := by decide +kernel
theorem dX6_ringCanSwap_5 : decode cX6_ringCanSwap 5 = .ok (.aload_n 1, 1) := by decide +kernel
theorem dX6_ringCanSwap_6 : decode cX6_ringCanSwap 6 = .ok (.arraylength, 1) := by decide +kernel
theorem dX6_ringCanSwap_7 : decode cX6_ringCanSwap 7 = .ok (.istore_n 2, 1) := by decide +kernel
theorem dX6_ringCanSwap_8 : decode cX6_ringCanSwap 8 = .ok (.iconst 0, 1) := by decide +kernel
theorem dX6_ringCanSwap_9 : decode cX6_ringCanSwap 9 = .ok (.istore_n 3, 1) := by decide +kernel
theorem dX6_ringCanSwap_10 : decode cX6_ringCanSwap 10 = .ok (.iload_n 3, 1) := by decide +kernel
theorem dX6_ringCanSwap_11 : decode cX6_ringCanSwap 11 = .ok (.iload_n 2, 1) := by decide +kernel
theorem dX6_ringCanSwap_12 : decode cX6_ringCanSwap 12 = .ok (.if_icmp .ge 54, 3) := by decide +kernel
theorem dX6_ringCanSwap_15 : decode cX6_ringCanSwap 15 = .ok (.aload_n 1, 1) := by decide +kernel
theorem dX6_ringCanSwap_16 : decode cX6_ringCanSwap 16 = .ok (.iload_n 3, 1) := by decide +kernel
theorem dX6_ringCanSwap_17 : decode cX6_ringCanSwap 17 = .ok (.aaload, 1) := by decide +kernel
theorem dX6_ringCanSwap_18 : decode cX6_ringCanSwap 18 = .ok (.astore 4, 2) := by decide +kernel
theorem dX6_ringCanSwap_20 : decode cX6_ringCanSwap 20 = .ok (.aload 4, 2) := by decide +kernel
theorem dX6_ringCanSwap_22 : decode cX6_ringCanSwap 22 = .ok (.ifnull 38, 3) := by decide +kernel
theorem dX6_ringCanSwap_25 : decode cX6_ringCanSwap 25 = .ok (.aload_n 0, 1) := by decide +kernel
theorem dX6_ringCanSwap_26 : decode cX6_ringCanSwap 26 = .ok (.aload 4, 2) := by decide +kernel
theorem dX6_ringCanSwap_28 : decode cX6_ringCanSwap 28 = .ok (.getfield 287, 3) := by decide +kernel
theorem dX6_ringCanSwap_31 : decode cX6_ringCanSwap 31 = .ok (.invokevirtual 253, 3) := by decide +kernel
theorem dX6_ringCanSwap_34 : decode cX6_ringCanSwap 34 = .ok (.ifCond .eq 24, 3) := by decide +kernel
theorem dX6_ringCanSwap_37 : decode cX6_ringCanSwap 37 = .ok (.aload 4, 2) := by decide +kernel
theorem dX6_ringCanSwap_39 : decode cX6_ringCanSwap 39 = .ok (.getfield 290, 3) := by decide +kernel
theorem dX6_ringCanSwap_42 : decode cX6_ringCanSwap 42 = .ok (.aload 4, 2) := by decide +kernel
theorem dX6_ringCanSwap_44 : decode cX6_ringCanSwap 44 = .ok (.getfield 287, 3) := by decide +kernel
theorem dX6_ringCanSwap_47 : decode cX6_ringCanSwap 47 = .ok (.aload 4, 2) := by decide +kernel
theorem dX6_ringCanSwap_49 : decode cX6_ringCanSwap 49 = .ok (.getfield 327, 3) := by decide +kernel
theorem dX6_ringCanSwap_52 : decode cX6_ringCanSwap 52 = .ok (.invokevirtual 94, 3) := by decide +kernel
theorem dX6_ringCanSwap_55 : decode cX6_ringCanSwap 55 = .ok (.ifCond .ne 5, 3) := by decide +kernel
theorem dX6_ringCanSwap_58 : decode cX6_ringCanSwap 58 = .ok (.iconst 0, 1) := by decide +kernel
theorem dX6_ringCanSwap_59 : decode cX6_ringCanSwap 59 = .ok (.ireturn, 1) := by decide +kernel
theorem dX6_ringCanSwap_60 : decode cX6_ringCanSwap 60 = .ok (.iinc 3 1, 3) := by decide +kernel
theorem dX6_ringCanSwap_63 : decode cX6_ringCanSwap 63 = .ok (.goto (-53), 3) := by decide +kernel
theorem dX6_ringCanSwap_66 : decode cX6_ringCanSwap 66 = .ok (.iconst 1, 1) := by decide +kernel
theorem dX6_ringCanSwap_67 : decode cX6_ringCanSwap 67 = .ok (.ireturn, 1) := by decide +kernel
theorem dJ0_length_8abf5_0 : decode cJ0_length_8abf5 0 = .ok (.aload_n 0, 1) := by decide +kernel
theorem dJ0_length_8abf5_1 : decode cJ0_length_8abf5 1 = .ok (.getfield 9, 3) := by decide +kernel
theorem dJ0_length_8abf5_4 : decode cJ0_length_8abf5 4 = .ok (.arraylength, 1) := by decide +kernel
theorem dJ0_length_8abf5_5 : decode cJ0_length_8abf5 5 = .ok (.aload_n 0, 1) := by decide +kernel
theorem dJ0_length_8abf5_6 : decode cJ0_length_8abf5 6 = .ok (.invokevirtual 335, 3) := by decide +kernel
theorem dJ0_length_8abf5_9 : decode cJ0_length_8abf5 9 = .ok (.ishr, 1) := by decide +kernel
theorem dJ0_length_8abf5_10 : decode cJ0_length_8abf5 10 = .ok (.ireturn, 1) := by decide +kernel
theorem dJ0_charAt_5068e_0 : decode cJ0_charAt_5068e 0 = .ok (.aload_n 0, 1) := by decide +kernel
theorem dJ0_charAt_5068e_1 : decode cJ0_charAt_5068e 1 = .ok (.invokevirtual 492, 3) := by decide +kernel
theorem dJ0_charAt_5068e_4 : decode cJ0_charAt_5068e 4 = .ok (.ifCond .eq 12, 3) := by decide +kernel
theorem dJ0_charAt_5068e_7 : decode cJ0_charAt_5068e 7 = .ok (.aload_n 0, 1) := by decide +kernel
theorem dJ0_charAt_5068e_8 : decode cJ0_charAt_5068e 8 = .ok (.getfield 9, 3) := by decide +kernel
theorem dJ0_charAt_5068e_11 : decode cJ0_charAt_5068e 11 = .ok (.iload_n 1, 1) := by decide +kernel
theorem dJ0_charAt_5068e_12 : decode cJ0_charAt_5068e 12 = .ok (.invokestatic 495, 3) := by decide +kernel
theorem dJ0_charAt_5068e_15 : decode cJ0_charAt_5068e 15 = .ok (.ireturn, 1) := by decide +kernel
theorem dJ0_charAt_5068e_16 : decode cJ0_charAt_5068e 16 = .ok (.aload_n 0, 1) := by decide +kernel
theorem dJ0_charAt_5068e_17 : decode cJ0_charAt_5068e 17 = .ok (.getfield 9, 3) := by decide +kernel
theorem dJ0_charAt_5068e_20 : decode cJ0_charAt_5068e 20 = .ok (.iload_n 1, 1) := by decide +kernel
theorem dJ0_charAt_5068e_21 : decode cJ0_charAt_5068e 21 = .ok (.invokestatic 498, 3) := by decide +kernel
theorem dJ0_charAt_5068e_24 : decode cJ0_charAt_5068e 24 = .ok (.ireturn, 1) := by decide +kernel
theorem dJ0_coder_7d493_0 : decode cJ0_coder_7d493 0 = .ok (.getstatic 38, 3) := by decide +kernel
theorem dJ0_coder_7d493_3 : decode cJ0_coder_7d493 3 = .ok (.ifCond .eq 10, 3) := by decide +kernel
theorem dJ0_coder_7d493_6 : decode cJ0_coder_7d493 6 = .ok (.aload_n 0, 1) := by decide +kernel
theorem dJ0_coder_7d493_7 : decode cJ0_coder_7d493 7 = .ok (.getfield 15, 3) := by decide +kernel
theorem dJ0_coder_7d493_10 : decode cJ0_coder_7d493 10 = .ok (.goto 4, 3) := by decide +kernel
theorem dJ0_coder_7d493_13 : decode cJ0_coder_7d493 13 = .ok (.iconst 1, 1) := by decide +kernel
theorem dJ0_coder_7d493_14 : decode cJ0_coder_7d493 14 = .ok (.ireturn, 1) := by decide +kernel
theorem dJ0_isLatin1_aae02_0 : decode cJ0_isLatin1_aae02 0 = .ok (.getstatic 38, 3) := by decide +kernel
theorem dJ0_isLatin1_aae02_3 : decode cJ0_isLatin1_aae02 3 = .ok (.ifCond .eq 14, 3) := by decide +kernel
theorem dJ0_isLatin1_aae02_6 : decode cJ0_isLatin1_aae02 6 = .ok (.aload_n 0, 1) := by decide +kernel
theorem dJ0_isLatin1_aae02_7 : decode cJ0_isLatin1_aae02 7 = .ok (.getfield 15, 3) := by decide +kernel
theorem dJ0_isLatin1_aae02_10 : decode cJ0_isLatin1_aae02 10 = .ok (.ifCond .ne 7, 3) := by decide +kernel
theorem dJ0_isLatin1_aae02_13 : decode cJ0_isLatin1_aae02 13 = .ok (.iconst 1, 1) := by decide +kernel
theorem dJ0_isLatin1_aae02_14 : decode cJ0_isLatin1_aae02 14 = .ok (.goto 4, 3) := by decide +kernel
theorem dJ0_isLatin1_aae02_17 : decode cJ0_isLatin1_aae02 17 = .ok (.iconst 0, 1) := by decide +kernel
theorem dJ0_isLatin1_aae02_18 : decode cJ0_isLatin1_aae02 18 = .ok (.ireturn, 1) := by decide +kernel
theorem dJ0_checkIndex_df160_0 : decode cJ0_checkIndex_df160 0 = .ok (.iload_n 0, 1) := by decide +kernel
theorem dJ0_checkIndex_df160_1 : decode cJ0_checkIndex_df160 1 = .ok (.iload_n 1, 1) := by decide +kernel
theorem dJ0_checkIndex_df160_2 : decode cJ0_checkIndex_df160 2 = .ok (.getstatic 1053, 3) := by decide +kernel
theorem dJ0_checkIndex_df160_5 : decode cJ0_checkIndex_df160 5 = .ok (.invokestatic 1059, 3) := by decide +kernel
theorem dJ0_checkIndex_df160_8 : decode cJ0_checkIndex_df160 8 = .ok (.pop, 1) := by decide +kernel
theorem dJ0_checkIndex_df160_9 : decode cJ0_checkIndex_df160 9 = .ok (.return_, 1) := by decide +kernel
theorem dJ1_charAt_3b067_0 : decode cJ1_charAt_3b067 0 = .ok (.iload_n 1, 1) := by decide +kernel
theorem dJ1_charAt_3b067_1 : decode cJ1_charAt_3b067 1 = .ok (.aload_n 0, 1) := by decide +kernel
theorem dJ1_charAt_3b067_2 : decode cJ1_charAt_3b067 2 = .ok (.arraylength, 1) := by decide +kernel
theorem dJ1_charAt_3b067_3 : decode cJ1_charAt_3b067 3 = .ok (.invokestatic 9, 3) := by decide +kernel
theorem dJ1_charAt_3b067_6 : decode cJ1_charAt_3b067 6 = .ok (.aload_n 0, 1) := by decide +kernel
theorem dJ1_charAt_3b067_7 : decode cJ1_charAt_3b067 7 = .ok (.iload_n 1, 1) := by decide +kernel
theorem dJ1_charAt_3b067_8 : decode cJ1_charAt_3b067 8 = .ok (.baload, 1) := by decide +kernel
theorem dJ1_charAt_3b067_9 : decode cJ1_charAt_3b067 9 = .ok (.sipush 255, 3) := by decide +kernel
theorem dJ1_charAt_3b067_12 : decode cJ1_charAt_3b067 12 = .ok (.iand, 1) := by decide +kernel
theorem dJ1_charAt_3b067_13 : decode cJ1_charAt_3b067 13 = .ok (.i2c, 1) := by decide +kernel
theorem dJ1_charAt_3b067_14 : decode cJ1_charAt_3b067 14 = .ok (.ireturn, 1) := by decide +kernel
theorem dJ2_getChar_3b067_0 : decode cJ2_getChar_3b067 0 = .ok (.getstatic 44, 3) := by decide +kernel
theorem dJ2_getChar_3b067_3 : decode cJ2_getChar_3b067 3 = .ok (.ifCond .ne 25, 3) := by decide +kernel
theorem dJ2_getChar_3b067_6 : decode cJ2_getChar_3b067 6 = .ok (.iload_n 1, 1) := by decide +kernel
theorem dJ2_getChar_3b067_7 : decode cJ2_getChar_3b067 7 = .ok (.ifCond .lt 11, 3) := by decide +kernel
theorem dJ2_getChar_3b067_10 : decode cJ2_getChar_3b067 10 = .ok (.iload_n 1, 1) := by decide +kernel
theorem dJ2_getChar_3b067_11 : decode cJ2_getChar_3b067 11 = .ok (.aload_n 0, 1) := by decide +kernel
theorem dJ2_getChar_3b067_12 : decode cJ2_getChar_3b067 12 = .ok (.invokestatic 48, 3) := by decide +kernel
theorem dJ2_getChar_3b067_15 : decode cJ2_getChar_3b067 15 = .ok (.if_icmp .lt 13, 3) := by decide +kernel
theorem dJ2_getChar_3b067_18 : decode cJ2_getChar_3b067 18 = .ok (.new 52, 3) := by decide +kernel
theorem dJ2_getChar_3b067_21 : decode cJ2_getChar_3b067 21 = .ok (.dup, 1) := by decide +kernel
theorem dJ2_getChar_3b067_22 : decode cJ2_getChar_3b067 22 = .ok (.ldc 54, 2) := by decide +kernel
theorem dJ2_getChar_3b067_24 : decode cJ2_getChar_3b067 24 = .ok (.invokespecial 56, 3) := by decide +kernel
theorem dJ2_getChar_3b067_27 : decode cJ2_getChar_3b067 27 = .ok (.athrow, 1) := by decide +kernel
theorem dJ2_getChar_3b067_28 : decode cJ2_getChar_3b067 28 = .ok (.iload_n 1, 1) := by decide +kernel
theorem dJ2_getChar_3b067_29 : decode cJ2_getChar_3b067 29 = .ok (.iconst 1, 1) := by decide +kernel
theorem dJ2_getChar_3b067_30 : decode cJ2_getChar_3b067 30 = .ok (.ishl, 1) := by decide +kernel
theorem dJ2_getChar_3b067_31 : decode cJ2_getChar_3b067 31 = .ok (.istore_n 1, 1) := by decide +kernel
theorem dJ2_getChar_3b067_32 : decode cJ2_getChar_3b067 32 = .ok (.aload_n 0, 1) := by decide +kernel
theorem dJ2_getChar_3b067_33 : decode cJ2_getChar_3b067 33 = .ok (.iload_n 1, 1) := by decide +kernel
theorem dJ2_getChar_3b067_34 : decode cJ2_getChar_3b067 34 = .ok (.iinc 1 1, 3) := by decide +kernel
theorem dJ2_getChar_3b067_37 : decode cJ2_getChar_3b067 37 = .ok (.baload, 1) := by decide +kernel
theorem dJ2_getChar_3b067_38 : decode cJ2_getChar_3b067 38 = .ok (.sipush 255, 3) := by decide +kernel
theorem dJ2_getChar_3b067_41 : decode cJ2_getChar_3b067 41 = .ok (.iand, 1) := by decide +kernel
theorem dJ2_getChar_3b067_42 : decode cJ2_getChar_3b067 42 = .ok (.getstatic 59, 3) := by decide +kernel
theorem dJ2_getChar_3b067_45 : decode cJ2_getChar_3b067 45 = .ok (.ishl, 1) := by decide +kernel
theorem dJ2_getChar_3b067_46 : decode cJ2_getChar_3b067 46 = .ok (.aload_n 0, 1) := by decide +kernel
theorem dJ2_getChar_3b067_47 : decode cJ2_getChar_3b067 47 = .ok (.iload_n 1, 1) := by decide +kernel
theorem dJ2_getChar_3b067_48 : decode cJ2_getChar_3b067 48 = .ok (.baload, 1) := by decide +kernel
theorem dJ2_getChar_3b067_49 : decode cJ2_getChar_3b067 49 = .ok (.sipush 255, 3) := by decide +kernel
theorem dJ2_getChar_3b067_52 : decode cJ2_getChar_3b067 52 = .ok (.iand, 1) := by decide +kernel
theorem dJ2_getChar_3b067_53 : decode cJ2_getChar_3b067 53 = .ok (.getstatic 63, 3) := by decide +kernel
theorem dJ2_getChar_3b067_56 : decode cJ2_getChar_3b067 56 = .ok (.ishl, 1) := by decide +kernel
theorem dJ2_getChar_3b067_57 : decode cJ2_getChar_3b067 57 = .ok (.ior, 1) := by decide +kernel
theorem dJ2_getChar_3b067_58 : decode cJ2_getChar_3b067 58 = .ok (.i2c, 1) := by decide +kernel
theorem dJ2_getChar_3b067_59 : decode cJ2_getChar_3b067 59 = .ok (.ireturn, 1) := by decide +kernel
theorem dJ2_length_9d52b_0 : decode cJ2_length_9d52b 0 = .ok (.aload_n 0, 1) := by decide +kernel
theorem dJ2_length_9d52b_1 : decode cJ2_length_9d52b 1 = .ok (.arraylength, 1) := by decide +kernel
theorem dJ2_length_9d52b_2 : decode cJ2_length_9d52b 2 = .ok (.iconst 1, 1) := by decide +kernel
theorem dJ2_length_9d52b_3 : decode cJ2_length_9d52b 3 = .ok (.ishr, 1) := by decide +kernel
theorem dJ2_length_9d52b_4 : decode cJ2_length_9d52b 4 = .ok (.ireturn, 1) := by decide +kernel
theorem dJ2_charAt_3b067_0 : decode cJ2_charAt_3b067 0 = .ok (.iload_n 1, 1) := by decide +kernel
theorem dJ2_charAt_3b067_1 : decode cJ2_charAt_3b067 1 = .ok (.aload_n 0, 1) := by decide +kernel
theorem dJ2_charAt_3b067_2 : decode cJ2_charAt_3b067 2 = .ok (.invokestatic 67, 3) := by decide +kernel
theorem dJ2_charAt_3b067_5 : decode cJ2_charAt_3b067 5 = .ok (.aload_n 0, 1) := by decide +kernel
theorem dJ2_charAt_3b067_6 : decode cJ2_charAt_3b067 6 = .ok (.iload_n 1, 1) := by decide +kernel
theorem dJ2_charAt_3b067_7 : decode cJ2_charAt_3b067 7 = .ok (.invokestatic 71, 3) := by decide +kernel
theorem dJ2_charAt_3b067_10 : decode cJ2_charAt_3b067 10 = .ok (.ireturn, 1) := by decide +kernel
theorem dJ2_checkIndex_2214a_0 : decode cJ2_checkIndex_2214a 0 = .ok (.iload_n 0, 1) := by decide +kernel
theorem dJ2_checkIndex_2214a_1 : decode cJ2_checkIndex_2214a 1 = .ok (.aload_n 1, 1) := by decide +kernel
theorem dJ2_checkIndex_2214a_2 : decode cJ2_checkIndex_2214a 2 = .ok (.invokestatic 48, 3) := by decide +kernel
theorem dJ2_checkIndex_2214a_5 : decode cJ2_checkIndex_2214a 5 = .ok (.invokestatic 414, 3) := by decide +kernel
theorem dJ2_checkIndex_2214a_8 : decode cJ2_checkIndex_2214a 8 = .ok (.return_, 1) := by decide +kernel
theorem dJ3_checkIndex_8e157_0 : decode cJ3_checkIndex_8e157 0 = .ok (.iload_n 0, 1) := by decide +kernel
theorem dJ3_checkIndex_8e157_1 : decode cJ3_checkIndex_8e157 1 = .ok (.ifCond .lt 8, 3) := by decide +kernel
theorem dJ3_checkIndex_8e157_4 : decode cJ3_checkIndex_8e157 4 = .ok (.iload_n 0, 1) := by decide +kernel
theorem dJ3_checkIndex_8e157_5 : decode cJ3_checkIndex_8e157 5 = .ok (.iload_n 1, 1) := by decide +kernel
theorem dJ3_checkIndex_8e157_6 : decode cJ3_checkIndex_8e157 6 = .ok (.if_icmp .lt 10, 3) := by decide +kernel
theorem dJ3_checkIndex_8e157_9 : decode cJ3_checkIndex_8e157 9 = .ok (.aload_n 2, 1) := by decide +kernel
theorem dJ3_checkIndex_8e157_10 : decode cJ3_checkIndex_8e157 10 = .ok (.iload_n 0, 1) := by decide +kernel
theorem dJ3_checkIndex_8e157_11 : decode cJ3_checkIndex_8e157 11 = .ok (.iload_n 1, 1) := by decide +kernel
theorem dJ3_checkIndex_8e157_12 : decode cJ3_checkIndex_8e157 12 = .ok (.invokestatic 95, 3) := by decide +kernel
theorem dJ3_checkIndex_8e157_15 : decode cJ3_checkIndex_8e157 15 = .ok (.athrow, 1) := by decide +kernel
theorem dJ3_checkIndex_8e157_16 : decode cJ3_checkIndex_8e157 16 = .ok (.iload_n 0, 1) := by decide +kernel
theorem dJ3_checkIndex_8e157_17 : decode cJ3_checkIndex_8e157 17 = .ok (.ireturn, 1) := by decide +kernel
