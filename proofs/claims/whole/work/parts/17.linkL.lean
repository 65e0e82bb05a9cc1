abbrev iL_about : MI := (yL_about, cL_about, 4, (some .int), 3)
abbrev iL_breaches : MI := (yL_breaches, cL_breaches, 5, (some .int), 4)
abbrev iL_breaks : MI := (yL_breaks, cL_breaks, 5, (some .int), 4)
abbrev iL_drop : MI := (yL_drop, cL_drop, 4, (some .int), 3)
abbrev iL_hold : MI := (yL_hold, cL_hold, 5, (some .int), 4)
abbrev iL_holder : MI := (yL_holder, cL_holder, 4, (some .int), 3)
abbrev iL_offer : MI := (yL_offer, cL_offer, 5, (some .int), 4)
abbrev iL_pass : MI := (yL_pass, cL_pass, 4, (some .int), 3)
abbrev iL_pay : MI := (yL_pay, cL_pay, 4, (some .int), 3)
abbrev iL_put : MI := (yL_put, cL_put, 4, (some .int), 3)
abbrev iL_read : MI := (yL_read, cL_read, 3, (some .int), 2)
abbrev iL_rest : MI := (yL_rest, cL_rest, 4, (some .int), 3)
abbrev iL_ring : MI := (yL_ring, cL_ring, 4, (some .int), 3)
abbrev iL_shift : MI := (yL_shift, cL_shift, 6, (some .int), 5)
abbrev iL_shiftOf : MI := (yL_shiftOf, cL_shiftOf, 5, (some .int), 4)
abbrev iL_stamp : MI := (yL_stamp, cL_stamp, 6, (some .int), 5)
abbrev iL_state : MI := (yL_state, cL_state, 4, (some .int), 3)
abbrev iL_swap : MI := (yL_swap, cL_swap, 4, (some .int), 3)
abbrev iL_takeBack : MI := (yL_takeBack, cL_takeBack, 4, (some .int), 3)
abbrev iL_wages : MI := (yL_wages, cL_wages, 4, (some .int), 3)
abbrev iL_withdraw : MI := (yL_withdraw, cL_withdraw, 4, (some .int), 3)
abbrev iL_worker : MI := (yL_worker, cL_worker, 6, (some .int), 5)
abbrev iL_worth : MI := (yL_worth, cL_worth, 4, (some .int), 3)
set_option maxRecDepth 100000 in
theorem kL_7 : LkV RL 7 iX6_pass := LkV_of [299, 300, 301, 53, 302] (by decide +kernel) (by decide +kernel)
set_option maxRecDepth 100000 in
theorem kL_17 : LkV RL 17 iX6_worker := LkV_of [390, 391, 392, 53, 393] (by decide +kernel) (by decide +kernel)
set_option maxRecDepth 100000 in
theorem kL_23 : LkV RL 23 iX6_shift := LkV_of [418, 419, 420, 53, 421] (by decide +kernel) (by decide +kernel)
set_option maxRecDepth 100000 in
theorem kL_26 : LkV RL 26 iX6_hold := LkV_of [471, 472, 473, 53, 474] (by decide +kernel) (by decide +kernel)
set_option maxRecDepth 100000 in
theorem kL_30 : LkV RL 30 iX6_stamp := LkV_of [609, 610, 611, 53, 612] (by decide +kernel) (by decide +kernel)
set_option maxRecDepth 100000 in
theorem kL_33 : LkV RL 33 iX6_holder := LkV_of [623, 624, 625, 53, 626] (by decide +kernel) (by decide +kernel)
set_option maxRecDepth 100000 in
theorem kL_36 : LkV RL 36 iX6_shiftOf := LkV_of [630, 631, 632, 53, 633] (by decide +kernel) (by decide +kernel)
set_option maxRecDepth 100000 in
theorem kL_39 : LkV RL 39 iX6_rest := LkV_of [639, 640, 641, 53, 642] (by decide +kernel) (by decide +kernel)
set_option maxRecDepth 100000 in
theorem kL_42 : LkV RL 42 iX6_put := LkV_of [647, 648, 649, 53, 650] (by decide +kernel) (by decide +kernel)
set_option maxRecDepth 100000 in
theorem kL_46 : LkV RL 46 iX6_read := LkV_of [667, 668, 669, 53, 670] (by decide +kernel) (by decide +kernel)
set_option maxRecDepth 100000 in
theorem kL_50 : LkV RL 50 iX6_drop := LkV_of [703, 704, 705, 53, 706] (by decide +kernel) (by decide +kernel)
set_option maxRecDepth 100000 in
theorem kL_53 : LkV RL 53 iX6_breaks := LkV_of [716, 717, 718, 53, 719] (by decide +kernel) (by decide +kernel)
set_option maxRecDepth 100000 in
theorem kL_57 : LkV RL 57 iX6_breaches := LkV_of [723, 724, 725, 53, 726] (by decide +kernel) (by decide +kernel)
set_option maxRecDepth 100000 in
theorem kL_60 : LkV RL 60 iX6_state := LkV_of [736, 737, 738, 53, 739] (by decide +kernel) (by decide +kernel)
set_option maxRecDepth 100000 in
theorem kL_63 : LkV RL 63 iX6_about := LkV_of [748, 749, 750, 53, 751] (by decide +kernel) (by decide +kernel)
set_option maxRecDepth 100000 in
theorem kL_66 : LkV RL 66 iX6_worth := LkV_of [755, 756, 757, 53, 758] (by decide +kernel) (by decide +kernel)
set_option maxRecDepth 100000 in
theorem kL_69 : LkV RL 69 iX6_pay := LkV_of [767, 768, 769, 53, 770] (by decide +kernel) (by decide +kernel)
set_option maxRecDepth 100000 in
theorem kL_72 : LkV RL 72 iX6_takeBack := LkV_of [775, 776, 777, 53, 778] (by decide +kernel) (by decide +kernel)
set_option maxRecDepth 100000 in
theorem kL_75 : LkV RL 75 iX6_wages := LkV_of [783, 784, 785, 53, 786] (by decide +kernel) (by decide +kernel)
set_option maxRecDepth 100000 in
theorem kL_78 : LkV RL 78 iX6_offer := LkV_of [794, 795, 796, 53, 797] (by decide +kernel) (by decide +kernel)
set_option maxRecDepth 100000 in
theorem kL_81 : LkV RL 81 iX6_withdraw := LkV_of [829, 830, 831, 53, 832] (by decide +kernel) (by decide +kernel)
set_option maxRecDepth 100000 in
theorem kL_84 : LkV RL 84 iX6_ring := LkV_of [842, 843, 844, 53, 845] (by decide +kernel) (by decide +kernel)
set_option maxRecDepth 100000 in
theorem kL_87 : LkV RL 87 iX6_swap := LkV_of [861, 862, 863, 53, 864] (by decide +kernel) (by decide +kernel)
set_option maxRecDepth 100000 in
theorem kL_90 : LkI RL 90 iX6_init := LkI_of [73, 74, 53, 75] (by decide +kernel) (by decide +kernel)
set_option maxRecDepth 100000 in
theorem kL_93 : LkI RL 93 iX7_init := LkI_of [872, 873, 56, 874] (by decide +kernel) (by decide +kernel)
set_option maxRecDepth 100000 in
theorem kL_99 : LkV RL 99 iX7_pass := LkV_of [988, 989, 990, 56, 991] (by decide +kernel) (by decide +kernel)
set_option maxRecDepth 100000 in
theorem kL_100 : LkV RL 100 iX7_thrown := LkV_of [984, 985, 986, 56, 987] (by decide +kernel) (by decide +kernel)
set_option maxRecDepth 100000 in
theorem kL_106 : LkV RL 106 iX7_worker := LkV_of [999, 1000, 1001, 56, 1002] (by decide +kernel) (by decide +kernel)
set_option maxRecDepth 100000 in
theorem kL_109 : LkV RL 109 iX7_shift := LkV_of [1006, 1007, 1008, 56, 1009] (by decide +kernel) (by decide +kernel)
set_option maxRecDepth 100000 in
theorem kL_113 : LkV RL 113 iX7_hold := LkV_of [1010, 1011, 1012, 56, 1013] (by decide +kernel) (by decide +kernel)
set_option maxRecDepth 100000 in
theorem kL_116 : LkV RL 116 iX7_stamp := LkV_of [1068, 1069, 1070, 56, 1071] (by decide +kernel) (by decide +kernel)
set_option maxRecDepth 100000 in
theorem kL_119 : LkV RL 119 iX7_holder := LkV_of [1076, 1077, 1078, 56, 1079] (by decide +kernel) (by decide +kernel)
set_option maxRecDepth 100000 in
theorem kL_122 : LkV RL 122 iX7_shiftOf := LkV_of [1084, 1085, 1086, 56, 1087] (by decide +kernel) (by decide +kernel)
set_option maxRecDepth 100000 in
theorem kL_125 : LkV RL 125 iX7_rest := LkV_of [1088, 1089, 1090, 56, 1091] (by decide +kernel) (by decide +kernel)
set_option maxRecDepth 100000 in
theorem kL_129 : LkV RL 129 iX7_put := LkV_of [1092, 1093, 1094, 56, 1095] (by decide +kernel) (by decide +kernel)
set_option maxRecDepth 100000 in
theorem kL_130 : LkV RL 130 iX6_empty := LkV_of [188, 189, 190, 53, 191] (by decide +kernel) (by decide +kernel)
set_option maxRecDepth 100000 in
theorem kL_133 : LkV RL 133 iX7_empty := LkV_of [1096, 1097, 1098, 56, 1099] (by decide +kernel) (by decide +kernel)
set_option maxRecDepth 100000 in
theorem kL_134 : LkV RL 134 iX6_wrongAt := LkV_of [196, 197, 198, 53, 199] (by decide +kernel) (by decide +kernel)
set_option maxRecDepth 100000 in
theorem kL_137 : LkV RL 137 iX7_wrongAt := LkV_of [1100, 1101, 1102, 56, 1103] (by decide +kernel) (by decide +kernel)
set_option maxRecDepth 100000 in
theorem kL_141 : LkV RL 141 iX7_read := LkV_of [1128, 1129, 1130, 56, 1131] (by decide +kernel) (by decide +kernel)
set_option maxRecDepth 100000 in
theorem kL_144 : LkV RL 144 iX7_drop := LkV_of [1132, 1133, 1134, 56, 1135] (by decide +kernel) (by decide +kernel)
set_option maxRecDepth 100000 in
theorem kL_147 : LkV RL 147 iX7_breaks := LkV_of [1140, 1141, 1142, 56, 1143] (by decide +kernel) (by decide +kernel)
set_option maxRecDepth 100000 in
theorem kL_150 : LkV RL 150 iX7_breaches := LkV_of [1144, 1145, 1146, 56, 1147] (by decide +kernel) (by decide +kernel)
set_option maxRecDepth 100000 in
theorem kL_151 : LkV RL 151 iX6_claims := LkV_of [282, 283, 284, 53, 285] (by decide +kernel) (by decide +kernel)
set_option maxRecDepth 100000 in
theorem kL_154 : LkV RL 154 iX7_claims := LkV_of [1148, 1149, 1150, 56, 1151] (by decide +kernel) (by decide +kernel)
set_option maxRecDepth 100000 in
theorem kL_157 : LkV RL 157 iX7_state := LkV_of [1152, 1153, 1154, 56, 1155] (by decide +kernel) (by decide +kernel)
set_option maxRecDepth 100000 in
theorem kL_160 : LkV RL 160 iX7_about := LkV_of [1160, 1161, 1162, 56, 1163] (by decide +kernel) (by decide +kernel)
set_option maxRecDepth 100000 in
theorem kL_163 : LkV RL 163 iX7_worth := LkV_of [1164, 1165, 1166, 56, 1167] (by decide +kernel) (by decide +kernel)
set_option maxRecDepth 100000 in
theorem kL_166 : LkV RL 166 iX7_pay := LkV_of [1172, 1173, 1174, 56, 1175] (by decide +kernel) (by decide +kernel)
set_option maxRecDepth 100000 in
theorem kL_169 : LkV RL 169 iX7_takeBack := LkV_of [1176, 1177, 1178, 56, 1179] (by decide +kernel) (by decide +kernel)
set_option maxRecDepth 100000 in
theorem kL_172 : LkV RL 172 iX7_wages := LkV_of [1180, 1181, 1182, 56, 1183] (by decide +kernel) (by decide +kernel)
set_option maxRecDepth 100000 in
theorem kL_175 : LkV RL 175 iX7_offer := LkV_of [1184, 1185, 1186, 56, 1187] (by decide +kernel) (by decide +kernel)
set_option maxRecDepth 100000 in
theorem kL_178 : LkV RL 178 iX7_withdraw := LkV_of [1188, 1189, 1190, 56, 1191] (by decide +kernel) (by decide +kernel)
set_option maxRecDepth 100000 in
theorem kL_179 : LkV RL 179 iX6_offers := LkV_of [286, 287, 288, 53, 289] (by decide +kernel) (by decide +kernel)
set_option maxRecDepth 100000 in
theorem kL_182 : LkV RL 182 iX7_offers := LkV_of [1200, 1201, 1202, 56, 1203] (by decide +kernel) (by decide +kernel)
set_option maxRecDepth 100000 in
theorem kL_185 : LkV RL 185 iX7_ring := LkV_of [1204, 1205, 1206, 56, 1207] (by decide +kernel) (by decide +kernel)
set_option maxRecDepth 100000 in
theorem kL_188 : LkV RL 188 iX7_swap := LkV_of [1220, 1221, 1222, 56, 1223] (by decide +kernel) (by decide +kernel)
